theorem kU1_e {T1 Z : Type} (u : T1) (k : T1 → Z) : kU1 u k = k u := kE1 rfl
theorem kU2_e {T1 T2 Z : Type} (u : T1 × T2) (k : T1 → T2 → Z) : kU2 u k = k u.1 u.2 := kE2 rfl
theorem kU3_e {T1 T2 T3 Z : Type} (u : T1 × T2 × T3) (k : T1 → T2 → T3 → Z) : kU3 u k = k u.1 u.2.1 u.2.2 := kE3 rfl
theorem kU4_e {T1 T2 T3 T4 Z : Type} (u : T1 × T2 × T3 × T4) (k : T1 → T2 → T3 → T4 → Z) : kU4 u k = k u.1 u.2.1 u.2.2.1 u.2.2.2 := kE4 rfl
theorem kU5_e {T1 T2 T3 T4 T5 Z : Type} (u : T1 × T2 × T3 × T4 × T5) (k : T1 → T2 → T3 → T4 → T5 → Z) : kU5 u k = k u.1 u.2.1 u.2.2.1 u.2.2.2.1 u.2.2.2.2 := kE5 rfl
theorem kU6_e {T1 T2 T3 T4 T5 T6 Z : Type} (u : T1 × T2 × T3 × T4 × T5 × T6) (k : T1 → T2 → T3 → T4 → T5 → T6 → Z) : kU6 u k = k u.1 u.2.1 u.2.2.1 u.2.2.2.1 u.2.2.2.2.1 u.2.2.2.2.2 := kE6 rfl
theorem kU7_e {T1 T2 T3 T4 T5 T6 T7 Z : Type} (u : T1 × T2 × T3 × T4 × T5 × T6 × T7) (k : T1 → T2 → T3 → T4 → T5 → T6 → T7 → Z) : kU7 u k = k u.1 u.2.1 u.2.2.1 u.2.2.2.1 u.2.2.2.2.1 u.2.2.2.2.2.1 u.2.2.2.2.2.2 := kE7 rfl
theorem kU8_e {T1 T2 T3 T4 T5 T6 T7 T8 Z : Type} (u : T1 × T2 × T3 × T4 × T5 × T6 × T7 × T8) (k : T1 → T2 → T3 → T4 → T5 → T6 → T7 → T8 → Z) : kU8 u k = k u.1 u.2.1 u.2.2.1 u.2.2.2.1 u.2.2.2.2.1 u.2.2.2.2.2.1 u.2.2.2.2.2.2.1 u.2.2.2.2.2.2.2 := kE8 rfl
theorem kU9_e {T1 T2 T3 T4 T5 T6 T7 T8 T9 Z : Type} (u : T1 × T2 × T3 × T4 × T5 × T6 × T7 × T8 × T9) (k : T1 → T2 → T3 → T4 → T5 → T6 → T7 → T8 → T9 → Z) : kU9 u k = k u.1 u.2.1 u.2.2.1 u.2.2.2.1 u.2.2.2.2.1 u.2.2.2.2.2.1 u.2.2.2.2.2.2.1 u.2.2.2.2.2.2.2.1 u.2.2.2.2.2.2.2.2 := kE9 rfl
theorem kU10_e {T1 T2 T3 T4 T5 T6 T7 T8 T9 T10 Z : Type} (u : T1 × T2 × T3 × T4 × T5 × T6 × T7 × T8 × T9 × T10) (k : T1 → T2 → T3 → T4 → T5 → T6 → T7 → T8 → T9 → T10 → Z) : kU10 u k = k u.1 u.2.1 u.2.2.1 u.2.2.2.1 u.2.2.2.2.1 u.2.2.2.2.2.1 u.2.2.2.2.2.2.1 u.2.2.2.2.2.2.2.1 u.2.2.2.2.2.2.2.2.1 u.2.2.2.2.2.2.2.2.2 := kE10 rfl
theorem kU11_e {T1 T2 T3 T4 T5 T6 T7 T8 T9 T10 T11 Z : Type} (u : T1 × T2 × T3 × T4 × T5 × T6 × T7 × T8 × T9 × T10 × T11) (k : T1 → T2 → T3 → T4 → T5 → T6 → T7 → T8 → T9 → T10 → T11 → Z) : kU11 u k = k u.1 u.2.1 u.2.2.1 u.2.2.2.1 u.2.2.2.2.1 u.2.2.2.2.2.1 u.2.2.2.2.2.2.1 u.2.2.2.2.2.2.2.1 u.2.2.2.2.2.2.2.2.1 u.2.2.2.2.2.2.2.2.2.1 u.2.2.2.2.2.2.2.2.2.2 := kE11 rfl
theorem kU12_e {T1 T2 T3 T4 T5 T6 T7 T8 T9 T10 T11 T12 Z : Type} (u : T1 × T2 × T3 × T4 × T5 × T6 × T7 × T8 × T9 × T10 × T11 × T12) (k : T1 → T2 → T3 → T4 → T5 → T6 → T7 → T8 → T9 → T10 → T11 → T12 → Z) : kU12 u k = k u.1 u.2.1 u.2.2.1 u.2.2.2.1 u.2.2.2.2.1 u.2.2.2.2.2.1 u.2.2.2.2.2.2.1 u.2.2.2.2.2.2.2.1 u.2.2.2.2.2.2.2.2.1 u.2.2.2.2.2.2.2.2.2.1 u.2.2.2.2.2.2.2.2.2.2.1 u.2.2.2.2.2.2.2.2.2.2.2 := kE12 rfl
theorem kU13_e {T1 T2 T3 T4 T5 T6 T7 T8 T9 T10 T11 T12 T13 Z : Type} (u : T1 × T2 × T3 × T4 × T5 × T6 × T7 × T8 × T9 × T10 × T11 × T12 × T13) (k : T1 → T2 → T3 → T4 → T5 → T6 → T7 → T8 → T9 → T10 → T11 → T12 → T13 → Z) : kU13 u k = k u.1 u.2.1 u.2.2.1 u.2.2.2.1 u.2.2.2.2.1 u.2.2.2.2.2.1 u.2.2.2.2.2.2.1 u.2.2.2.2.2.2.2.1 u.2.2.2.2.2.2.2.2.1 u.2.2.2.2.2.2.2.2.2.1 u.2.2.2.2.2.2.2.2.2.2.1 u.2.2.2.2.2.2.2.2.2.2.2.1 u.2.2.2.2.2.2.2.2.2.2.2.2 := kE13 rfl
theorem kU14_e {T1 T2 T3 T4 T5 T6 T7 T8 T9 T10 T11 T12 T13 T14 Z : Type} (u : T1 × T2 × T3 × T4 × T5 × T6 × T7 × T8 × T9 × T10 × T11 × T12 × T13 × T14) (k : T1 → T2 → T3 → T4 → T5 → T6 → T7 → T8 → T9 → T10 → T11 → T12 → T13 → T14 → Z) : kU14 u k = k u.1 u.2.1 u.2.2.1 u.2.2.2.1 u.2.2.2.2.1 u.2.2.2.2.2.1 u.2.2.2.2.2.2.1 u.2.2.2.2.2.2.2.1 u.2.2.2.2.2.2.2.2.1 u.2.2.2.2.2.2.2.2.2.1 u.2.2.2.2.2.2.2.2.2.2.1 u.2.2.2.2.2.2.2.2.2.2.2.1 u.2.2.2.2.2.2.2.2.2.2.2.2.1 u.2.2.2.2.2.2.2.2.2.2.2.2.2 := kE14 rfl
theorem kU15_e {T1 T2 T3 T4 T5 T6 T7 T8 T9 T10 T11 T12 T13 T14 T15 Z : Type} (u : T1 × T2 × T3 × T4 × T5 × T6 × T7 × T8 × T9 × T10 × T11 × T12 × T13 × T14 × T15) (k : T1 → T2 → T3 → T4 → T5 → T6 → T7 → T8 → T9 → T10 → T11 → T12 → T13 → T14 → T15 → Z) : kU15 u k = k u.1 u.2.1 u.2.2.1 u.2.2.2.1 u.2.2.2.2.1 u.2.2.2.2.2.1 u.2.2.2.2.2.2.1 u.2.2.2.2.2.2.2.1 u.2.2.2.2.2.2.2.2.1 u.2.2.2.2.2.2.2.2.2.1 u.2.2.2.2.2.2.2.2.2.2.1 u.2.2.2.2.2.2.2.2.2.2.2.1 u.2.2.2.2.2.2.2.2.2.2.2.2.1 u.2.2.2.2.2.2.2.2.2.2.2.2.2.1 u.2.2.2.2.2.2.2.2.2.2.2.2.2.2 := kE15 rfl
theorem kU16_e {T1 T2 T3 T4 T5 T6 T7 T8 T9 T10 T11 T12 T13 T14 T15 T16 Z : Type} (u : T1 × T2 × T3 × T4 × T5 × T6 × T7 × T8 × T9 × T10 × T11 × T12 × T13 × T14 × T15 × T16) (k : T1 → T2 → T3 → T4 → T5 → T6 → T7 → T8 → T9 → T10 → T11 → T12 → T13 → T14 → T15 → T16 → Z) : kU16 u k = k u.1 u.2.1 u.2.2.1 u.2.2.2.1 u.2.2.2.2.1 u.2.2.2.2.2.1 u.2.2.2.2.2.2.1 u.2.2.2.2.2.2.2.1 u.2.2.2.2.2.2.2.2.1 u.2.2.2.2.2.2.2.2.2.1 u.2.2.2.2.2.2.2.2.2.2.1 u.2.2.2.2.2.2.2.2.2.2.2.1 u.2.2.2.2.2.2.2.2.2.2.2.2.1 u.2.2.2.2.2.2.2.2.2.2.2.2.2.1 u.2.2.2.2.2.2.2.2.2.2.2.2.2.2.1 u.2.2.2.2.2.2.2.2.2.2.2.2.2.2.2 := kE16 rfl
theorem kU17_e {T1 T2 T3 T4 T5 T6 T7 T8 T9 T10 T11 T12 T13 T14 T15 T16 T17 Z : Type} (u : T1 × T2 × T3 × T4 × T5 × T6 × T7 × T8 × T9 × T10 × T11 × T12 × T13 × T14 × T15 × T16 × T17) (k : T1 → T2 → T3 → T4 → T5 → T6 → T7 → T8 → T9 → T10 → T11 → T12 → T13 → T14 → T15 → T16 → T17 → Z) : kU17 u k = k u.1 u.2.1 u.2.2.1 u.2.2.2.1 u.2.2.2.2.1 u.2.2.2.2.2.1 u.2.2.2.2.2.2.1 u.2.2.2.2.2.2.2.1 u.2.2.2.2.2.2.2.2.1 u.2.2.2.2.2.2.2.2.2.1 u.2.2.2.2.2.2.2.2.2.2.1 u.2.2.2.2.2.2.2.2.2.2.2.1 u.2.2.2.2.2.2.2.2.2.2.2.2.1 u.2.2.2.2.2.2.2.2.2.2.2.2.2.1 u.2.2.2.2.2.2.2.2.2.2.2.2.2.2.1 u.2.2.2.2.2.2.2.2.2.2.2.2.2.2.2.1 u.2.2.2.2.2.2.2.2.2.2.2.2.2.2.2.2 := kE17 rfl
theorem kU18_e {T1 T2 T3 T4 T5 T6 T7 T8 T9 T10 T11 T12 T13 T14 T15 T16 T17 T18 Z : Type} (u : T1 × T2 × T3 × T4 × T5 × T6 × T7 × T8 × T9 × T10 × T11 × T12 × T13 × T14 × T15 × T16 × T17 × T18) (k : T1 → T2 → T3 → T4 → T5 → T6 → T7 → T8 → T9 → T10 → T11 → T12 → T13 → T14 → T15 → T16 → T17 → T18 → Z) : kU18 u k = k u.1 u.2.1 u.2.2.1 u.2.2.2.1 u.2.2.2.2.1 u.2.2.2.2.2.1 u.2.2.2.2.2.2.1 u.2.2.2.2.2.2.2.1 u.2.2.2.2.2.2.2.2.1 u.2.2.2.2.2.2.2.2.2.1 u.2.2.2.2.2.2.2.2.2.2.1 u.2.2.2.2.2.2.2.2.2.2.2.1 u.2.2.2.2.2.2.2.2.2.2.2.2.1 u.2.2.2.2.2.2.2.2.2.2.2.2.2.1 u.2.2.2.2.2.2.2.2.2.2.2.2.2.2.1 u.2.2.2.2.2.2.2.2.2.2.2.2.2.2.2.1 u.2.2.2.2.2.2.2.2.2.2.2.2.2.2.2.2.1 u.2.2.2.2.2.2.2.2.2.2.2.2.2.2.2.2.2 := kE18 rfl
theorem kU19_e {T1 T2 T3 T4 T5 T6 T7 T8 T9 T10 T11 T12 T13 T14 T15 T16 T17 T18 T19 Z : Type} (u : T1 × T2 × T3 × T4 × T5 × T6 × T7 × T8 × T9 × T10 × T11 × T12 × T13 × T14 × T15 × T16 × T17 × T18 × T19) (k : T1 → T2 → T3 → T4 → T5 → T6 → T7 → T8 → T9 → T10 → T11 → T12 → T13 → T14 → T15 → T16 → T17 → T18 → T19 → Z) : kU19 u k = k u.1 u.2.1 u.2.2.1 u.2.2.2.1 u.2.2.2.2.1 u.2.2.2.2.2.1 u.2.2.2.2.2.2.1 u.2.2.2.2.2.2.2.1 u.2.2.2.2.2.2.2.2.1 u.2.2.2.2.2.2.2.2.2.1 u.2.2.2.2.2.2.2.2.2.2.1 u.2.2.2.2.2.2.2.2.2.2.2.1 u.2.2.2.2.2.2.2.2.2.2.2.2.1 u.2.2.2.2.2.2.2.2.2.2.2.2.2.1 u.2.2.2.2.2.2.2.2.2.2.2.2.2.2.1 u.2.2.2.2.2.2.2.2.2.2.2.2.2.2.2.1 u.2.2.2.2.2.2.2.2.2.2.2.2.2.2.2.2.1 u.2.2.2.2.2.2.2.2.2.2.2.2.2.2.2.2.2.1 u.2.2.2.2.2.2.2.2.2.2.2.2.2.2.2.2.2.2 := kE19 rfl
/-- small numbers compared -/
theorem kq00 : kEq (0 : Int32) (0 : Int32) = true := by decide
theorem kl00 : kLe (0 : Int32) (0 : Int32) = true := by decide
theorem kn00 : kLt (0 : Int32) (0 : Int32) = false := by decide
theorem kq01 : kEq (0 : Int32) (1 : Int32) = false := by decide
theorem kl01 : kLe (0 : Int32) (1 : Int32) = true := by decide
theorem kn01 : kLt (0 : Int32) (1 : Int32) = true := by decide
theorem kq02 : kEq (0 : Int32) (2 : Int32) = false := by decide
theorem kl02 : kLe (0 : Int32) (2 : Int32) = true := by decide
theorem kn02 : kLt (0 : Int32) (2 : Int32) = true := by decide
theorem kq03 : kEq (0 : Int32) (3 : Int32) = false := by decide
theorem kl03 : kLe (0 : Int32) (3 : Int32) = true := by decide
theorem kn03 : kLt (0 : Int32) (3 : Int32) = true := by decide
theorem kq04 : kEq (0 : Int32) (4 : Int32) = false := by decide
theorem kl04 : kLe (0 : Int32) (4 : Int32) = true := by decide
theorem kn04 : kLt (0 : Int32) (4 : Int32) = true := by decide
theorem kq05 : kEq (0 : Int32) (5 : Int32) = false := by decide
theorem kl05 : kLe (0 : Int32) (5 : Int32) = true := by decide
theorem kn05 : kLt (0 : Int32) (5 : Int32) = true := by decide
theorem kq06 : kEq (0 : Int32) (6 : Int32) = false := by decide
theorem kl06 : kLe (0 : Int32) (6 : Int32) = true := by decide
theorem kn06 : kLt (0 : Int32) (6 : Int32) = true := by decide
theorem kq07 : kEq (0 : Int32) (7 : Int32) = false := by decide
theorem kl07 : kLe (0 : Int32) (7 : Int32) = true := by decide
theorem kn07 : kLt (0 : Int32) (7 : Int32) = true := by decide
theorem kq10 : kEq (1 : Int32) (0 : Int32) = false := by decide
theorem kl10 : kLe (1 : Int32) (0 : Int32) = false := by decide
theorem kn10 : kLt (1 : Int32) (0 : Int32) = false := by decide
theorem kq11 : kEq (1 : Int32) (1 : Int32) = true := by decide
theorem kl11 : kLe (1 : Int32) (1 : Int32) = true := by decide
theorem kn11 : kLt (1 : Int32) (1 : Int32) = false := by decide
theorem kq12 : kEq (1 : Int32) (2 : Int32) = false := by decide
theorem kl12 : kLe (1 : Int32) (2 : Int32) = true := by decide
theorem kn12 : kLt (1 : Int32) (2 : Int32) = true := by decide
theorem kq13 : kEq (1 : Int32) (3 : Int32) = false := by decide
theorem kl13 : kLe (1 : Int32) (3 : Int32) = true := by decide
theorem kn13 : kLt (1 : Int32) (3 : Int32) = true := by decide
theorem kq14 : kEq (1 : Int32) (4 : Int32) = false := by decide
theorem kl14 : kLe (1 : Int32) (4 : Int32) = true := by decide
theorem kn14 : kLt (1 : Int32) (4 : Int32) = true := by decide
theorem kq15 : kEq (1 : Int32) (5 : Int32) = false := by decide
theorem kl15 : kLe (1 : Int32) (5 : Int32) = true := by decide
theorem kn15 : kLt (1 : Int32) (5 : Int32) = true := by decide
theorem kq16 : kEq (1 : Int32) (6 : Int32) = false := by decide
theorem kl16 : kLe (1 : Int32) (6 : Int32) = true := by decide
theorem kn16 : kLt (1 : Int32) (6 : Int32) = true := by decide
theorem kq17 : kEq (1 : Int32) (7 : Int32) = false := by decide
theorem kl17 : kLe (1 : Int32) (7 : Int32) = true := by decide
theorem kn17 : kLt (1 : Int32) (7 : Int32) = true := by decide
theorem kq20 : kEq (2 : Int32) (0 : Int32) = false := by decide
theorem kl20 : kLe (2 : Int32) (0 : Int32) = false := by decide
theorem kn20 : kLt (2 : Int32) (0 : Int32) = false := by decide
theorem kq21 : kEq (2 : Int32) (1 : Int32) = false := by decide
theorem kl21 : kLe (2 : Int32) (1 : Int32) = false := by decide
theorem kn21 : kLt (2 : Int32) (1 : Int32) = false := by decide
theorem kq22 : kEq (2 : Int32) (2 : Int32) = true := by decide
theorem kl22 : kLe (2 : Int32) (2 : Int32) = true := by decide
theorem kn22 : kLt (2 : Int32) (2 : Int32) = false := by decide
theorem kq23 : kEq (2 : Int32) (3 : Int32) = false := by decide
theorem kl23 : kLe (2 : Int32) (3 : Int32) = true := by decide
theorem kn23 : kLt (2 : Int32) (3 : Int32) = true := by decide
theorem kq24 : kEq (2 : Int32) (4 : Int32) = false := by decide
theorem kl24 : kLe (2 : Int32) (4 : Int32) = true := by decide
theorem kn24 : kLt (2 : Int32) (4 : Int32) = true := by decide
theorem kq25 : kEq (2 : Int32) (5 : Int32) = false := by decide
theorem kl25 : kLe (2 : Int32) (5 : Int32) = true := by decide
theorem kn25 : kLt (2 : Int32) (5 : Int32) = true := by decide
theorem kq26 : kEq (2 : Int32) (6 : Int32) = false := by decide
theorem kl26 : kLe (2 : Int32) (6 : Int32) = true := by decide
theorem kn26 : kLt (2 : Int32) (6 : Int32) = true := by decide
theorem kq27 : kEq (2 : Int32) (7 : Int32) = false := by decide
theorem kl27 : kLe (2 : Int32) (7 : Int32) = true := by decide
theorem kn27 : kLt (2 : Int32) (7 : Int32) = true := by decide
theorem kq30 : kEq (3 : Int32) (0 : Int32) = false := by decide
theorem kl30 : kLe (3 : Int32) (0 : Int32) = false := by decide
theorem kn30 : kLt (3 : Int32) (0 : Int32) = false := by decide
theorem kq31 : kEq (3 : Int32) (1 : Int32) = false := by decide
theorem kl31 : kLe (3 : Int32) (1 : Int32) = false := by decide
theorem kn31 : kLt (3 : Int32) (1 : Int32) = false := by decide
theorem kq32 : kEq (3 : Int32) (2 : Int32) = false := by decide
theorem kl32 : kLe (3 : Int32) (2 : Int32) = false := by decide
theorem kn32 : kLt (3 : Int32) (2 : Int32) = false := by decide
theorem kq33 : kEq (3 : Int32) (3 : Int32) = true := by decide
theorem kl33 : kLe (3 : Int32) (3 : Int32) = true := by decide
theorem kn33 : kLt (3 : Int32) (3 : Int32) = false := by decide
theorem kq34 : kEq (3 : Int32) (4 : Int32) = false := by decide
theorem kl34 : kLe (3 : Int32) (4 : Int32) = true := by decide
theorem kn34 : kLt (3 : Int32) (4 : Int32) = true := by decide
theorem kq35 : kEq (3 : Int32) (5 : Int32) = false := by decide
theorem kl35 : kLe (3 : Int32) (5 : Int32) = true := by decide
theorem kn35 : kLt (3 : Int32) (5 : Int32) = true := by decide
theorem kq36 : kEq (3 : Int32) (6 : Int32) = false := by decide
theorem kl36 : kLe (3 : Int32) (6 : Int32) = true := by decide
theorem kn36 : kLt (3 : Int32) (6 : Int32) = true := by decide
theorem kq37 : kEq (3 : Int32) (7 : Int32) = false := by decide
theorem kl37 : kLe (3 : Int32) (7 : Int32) = true := by decide
theorem kn37 : kLt (3 : Int32) (7 : Int32) = true := by decide
theorem kq40 : kEq (4 : Int32) (0 : Int32) = false := by decide
theorem kl40 : kLe (4 : Int32) (0 : Int32) = false := by decide
theorem kn40 : kLt (4 : Int32) (0 : Int32) = false := by decide
theorem kq41 : kEq (4 : Int32) (1 : Int32) = false := by decide
theorem kl41 : kLe (4 : Int32) (1 : Int32) = false := by decide
theorem kn41 : kLt (4 : Int32) (1 : Int32) = false := by decide
theorem kq42 : kEq (4 : Int32) (2 : Int32) = false := by decide
theorem kl42 : kLe (4 : Int32) (2 : Int32) = false := by decide
theorem kn42 : kLt (4 : Int32) (2 : Int32) = false := by decide
theorem kq43 : kEq (4 : Int32) (3 : Int32) = false := by decide
theorem kl43 : kLe (4 : Int32) (3 : Int32) = false := by decide
theorem kn43 : kLt (4 : Int32) (3 : Int32) = false := by decide
theorem kq44 : kEq (4 : Int32) (4 : Int32) = true := by decide
theorem kl44 : kLe (4 : Int32) (4 : Int32) = true := by decide
theorem kn44 : kLt (4 : Int32) (4 : Int32) = false := by decide
theorem kq45 : kEq (4 : Int32) (5 : Int32) = false := by decide
theorem kl45 : kLe (4 : Int32) (5 : Int32) = true := by decide
theorem kn45 : kLt (4 : Int32) (5 : Int32) = true := by decide
theorem kq46 : kEq (4 : Int32) (6 : Int32) = false := by decide
theorem kl46 : kLe (4 : Int32) (6 : Int32) = true := by decide
theorem kn46 : kLt (4 : Int32) (6 : Int32) = true := by decide
theorem kq47 : kEq (4 : Int32) (7 : Int32) = false := by decide
theorem kl47 : kLe (4 : Int32) (7 : Int32) = true := by decide
theorem kn47 : kLt (4 : Int32) (7 : Int32) = true := by decide
theorem kq50 : kEq (5 : Int32) (0 : Int32) = false := by decide
theorem kl50 : kLe (5 : Int32) (0 : Int32) = false := by decide
theorem kn50 : kLt (5 : Int32) (0 : Int32) = false := by decide
theorem kq51 : kEq (5 : Int32) (1 : Int32) = false := by decide
theorem kl51 : kLe (5 : Int32) (1 : Int32) = false := by decide
theorem kn51 : kLt (5 : Int32) (1 : Int32) = false := by decide
theorem kq52 : kEq (5 : Int32) (2 : Int32) = false := by decide
theorem kl52 : kLe (5 : Int32) (2 : Int32) = false := by decide
theorem kn52 : kLt (5 : Int32) (2 : Int32) = false := by decide
theorem kq53 : kEq (5 : Int32) (3 : Int32) = false := by decide
theorem kl53 : kLe (5 : Int32) (3 : Int32) = false := by decide
theorem kn53 : kLt (5 : Int32) (3 : Int32) = false := by decide
theorem kq54 : kEq (5 : Int32) (4 : Int32) = false := by decide
theorem kl54 : kLe (5 : Int32) (4 : Int32) = false := by decide
theorem kn54 : kLt (5 : Int32) (4 : Int32) = false := by decide
theorem kq55 : kEq (5 : Int32) (5 : Int32) = true := by decide
theorem kl55 : kLe (5 : Int32) (5 : Int32) = true := by decide
theorem kn55 : kLt (5 : Int32) (5 : Int32) = false := by decide
theorem kq56 : kEq (5 : Int32) (6 : Int32) = false := by decide
theorem kl56 : kLe (5 : Int32) (6 : Int32) = true := by decide
theorem kn56 : kLt (5 : Int32) (6 : Int32) = true := by decide
theorem kq57 : kEq (5 : Int32) (7 : Int32) = false := by decide
theorem kl57 : kLe (5 : Int32) (7 : Int32) = true := by decide
theorem kn57 : kLt (5 : Int32) (7 : Int32) = true := by decide
theorem kq60 : kEq (6 : Int32) (0 : Int32) = false := by decide
theorem kl60 : kLe (6 : Int32) (0 : Int32) = false := by decide
theorem kn60 : kLt (6 : Int32) (0 : Int32) = false := by decide
theorem kq61 : kEq (6 : Int32) (1 : Int32) = false := by decide
theorem kl61 : kLe (6 : Int32) (1 : Int32) = false := by decide
theorem kn61 : kLt (6 : Int32) (1 : Int32) = false := by decide
theorem kq62 : kEq (6 : Int32) (2 : Int32) = false := by decide
theorem kl62 : kLe (6 : Int32) (2 : Int32) = false := by decide
theorem kn62 : kLt (6 : Int32) (2 : Int32) = false := by decide
theorem kq63 : kEq (6 : Int32) (3 : Int32) = false := by decide
theorem kl63 : kLe (6 : Int32) (3 : Int32) = false := by decide
theorem kn63 : kLt (6 : Int32) (3 : Int32) = false := by decide
theorem kq64 : kEq (6 : Int32) (4 : Int32) = false := by decide
theorem kl64 : kLe (6 : Int32) (4 : Int32) = false := by decide
theorem kn64 : kLt (6 : Int32) (4 : Int32) = false := by decide
theorem kq65 : kEq (6 : Int32) (5 : Int32) = false := by decide
theorem kl65 : kLe (6 : Int32) (5 : Int32) = false := by decide
theorem kn65 : kLt (6 : Int32) (5 : Int32) = false := by decide
theorem kq66 : kEq (6 : Int32) (6 : Int32) = true := by decide
theorem kl66 : kLe (6 : Int32) (6 : Int32) = true := by decide
theorem kn66 : kLt (6 : Int32) (6 : Int32) = false := by decide
theorem kq67 : kEq (6 : Int32) (7 : Int32) = false := by decide
theorem kl67 : kLe (6 : Int32) (7 : Int32) = true := by decide
theorem kn67 : kLt (6 : Int32) (7 : Int32) = true := by decide
theorem kq70 : kEq (7 : Int32) (0 : Int32) = false := by decide
theorem kl70 : kLe (7 : Int32) (0 : Int32) = false := by decide
theorem kn70 : kLt (7 : Int32) (0 : Int32) = false := by decide
theorem kq71 : kEq (7 : Int32) (1 : Int32) = false := by decide
theorem kl71 : kLe (7 : Int32) (1 : Int32) = false := by decide
theorem kn71 : kLt (7 : Int32) (1 : Int32) = false := by decide
theorem kq72 : kEq (7 : Int32) (2 : Int32) = false := by decide
theorem kl72 : kLe (7 : Int32) (2 : Int32) = false := by decide
theorem kn72 : kLt (7 : Int32) (2 : Int32) = false := by decide
theorem kq73 : kEq (7 : Int32) (3 : Int32) = false := by decide
theorem kl73 : kLe (7 : Int32) (3 : Int32) = false := by decide
theorem kn73 : kLt (7 : Int32) (3 : Int32) = false := by decide
theorem kq74 : kEq (7 : Int32) (4 : Int32) = false := by decide
theorem kl74 : kLe (7 : Int32) (4 : Int32) = false := by decide
theorem kn74 : kLt (7 : Int32) (4 : Int32) = false := by decide
theorem kq75 : kEq (7 : Int32) (5 : Int32) = false := by decide
theorem kl75 : kLe (7 : Int32) (5 : Int32) = false := by decide
theorem kn75 : kLt (7 : Int32) (5 : Int32) = false := by decide
theorem kq76 : kEq (7 : Int32) (6 : Int32) = false := by decide
theorem kl76 : kLe (7 : Int32) (6 : Int32) = false := by decide
theorem kn76 : kLt (7 : Int32) (6 : Int32) = false := by decide
theorem kq77 : kEq (7 : Int32) (7 : Int32) = true := by decide
theorem kl77 : kLe (7 : Int32) (7 : Int32) = true := by decide
theorem kn77 : kLt (7 : Int32) (7 : Int32) = false := by decide
/-! rows on bits, shifts and unsigned numbers, to paste: each family out of a closed proof of our own, whole with what it rests on; each by itself clean at Lean in its own claim (generation 39, form 5). Take a family whole -/
/-! ===== Int32 by its bits: bt x i ===== -/
def bt (x : Int32) (i : Nat) : Bool := x.toBitVec.getLsbD i
theorem b_ext {x y : Int32} (h : ∀ i, i < 32 → bt x i = bt y i) : x = y := Int32.toBitVec_inj.mp (BitVec.eq_of_getLsbD_eq (fun i hi => h i hi))
theorem b_or (x y : Int32) (i : Nat) : bt (x ||| y) i = (bt x i || bt y i) := by unfold bt; rw [Int32.toBitVec_or, BitVec.getLsbD_or]
theorem b_and (x y : Int32) (i : Nat) : bt (x &&& y) i = (bt x i && bt y i) := by unfold bt; rw [Int32.toBitVec_and, BitVec.getLsbD_and]
theorem b_xor (x y : Int32) (i : Nat) : bt (x ^^^ y) i = (bt x i ^^ bt y i) := by unfold bt; rw [Int32.toBitVec_xor, BitVec.getLsbD_xor]
theorem b_big {x : Int32} {i : Nat} (h : 32 ≤ i) : bt x i = false := BitVec.getLsbD_of_ge _ _ h
theorem b_255 (i : Nat) : bt 255 i = decide (i < 8) := by
  rcases Nat.lt_or_ge i 32 with h | h
  · exact (by decide +kernel : ∀ i, i < 32 → bt 255 i = decide (i < 8)) i h
  · rw [b_big h, decide_eq_false (by omega)]
theorem b_65535 (i : Nat) : bt 65535 i = decide (i < 16) := by
  rcases Nat.lt_or_ge i 32 with h | h
  · exact (by decide +kernel : ∀ i, i < 32 → bt 65535 i = decide (i < 16)) i h
  · rw [b_big h, decide_eq_false (by omega)]
theorem b_m1 : ∀ i, i < 32 → bt (-1) i = true := by decide +kernel
theorem b_0 (i : Nat) : bt 0 i = false := BitVec.getLsbD_zero
theorem s_l : ∀ n, n < 32 → ((nI n &&& 31).toBitVec.smod 32).toNat = n := by decide +kernel
theorem s_u : ∀ n, n < 32 → (((nI n).toUInt32 &&& Int32.toUInt32 31).toBitVec % 32).toNat = n := by decide +kernel
theorem b_shl (n : Nat) (hn : n < 32) (x : Int32) {i : Nat} (hi : i < 32) : bt (x <<< (nI n &&& 31)) i = (decide (n ≤ i) && bt x (i - n)) := by
  unfold bt
  rw [Int32.toBitVec_shiftLeft]
  show (x.toBitVec <<< ((nI n &&& 31).toBitVec.smod 32).toNat).getLsbD i = _
  rw [s_l n hn, BitVec.getLsbD_shiftLeft]
  rcases Nat.lt_or_ge i n with h | h
  · simp [h, Nat.not_le.mpr h]
  · simp [hi, h, Nat.not_lt.mpr h]
theorem b_ushr (n : Nat) (hn : n < 32) (x : Int32) (i : Nat) : bt ((x.toUInt32 >>> ((nI n).toUInt32 &&& Int32.toUInt32 31)).toInt32) i = bt x (n + i) := by
  show (x.toUInt32 >>> ((nI n).toUInt32 &&& Int32.toUInt32 31)).toBitVec.getLsbD i = x.toUInt32.toBitVec.getLsbD (n + i)
  rw [UInt32.toBitVec_shiftRight]
  show (x.toUInt32.toBitVec >>> (((nI n).toUInt32 &&& Int32.toUInt32 31).toBitVec % 32).toNat).getLsbD i = _
  rw [s_u n hn, BitVec.getLsbD_ushiftRight]
theorem b_sshr (n : Nat) (hn : n < 32) (x : Int32) {i : Nat} (hi : i < 32) : bt (x >>> (nI n &&& 31)) i = if n + i < 32 then bt x (n + i) else bt x 31 := by
  unfold bt
  rw [Int32.toBitVec_shiftRight]
  show (x.toBitVec.sshiftRight ((nI n &&& 31).toBitVec.smod 32).toNat).getLsbD i = _
  rw [s_l n hn, BitVec.getLsbD_sshiftRight, BitVec.msb_eq_getLsbD_last]
  simp [hi]
theorem b_shl8 (x : Int32) {i : Nat} (hi : i < 32) : bt (x <<< ((8 : Int32) &&& 31)) i = (decide (8 ≤ i) && bt x (i - 8)) := b_shl 8 (by omega) x hi
theorem b_shl16 (x : Int32) {i : Nat} (hi : i < 32) : bt (x <<< ((16 : Int32) &&& 31)) i = (decide (16 ≤ i) && bt x (i - 16)) := b_shl 16 (by omega) x hi
theorem b_shl24 (x : Int32) {i : Nat} (hi : i < 32) : bt (x <<< ((24 : Int32) &&& 31)) i = (decide (24 ≤ i) && bt x (i - 24)) := b_shl 24 (by omega) x hi
theorem b_sshr8 (x : Int32) {i : Nat} (hi : i < 32) : bt (x >>> ((8 : Int32) &&& 31)) i = if 8 + i < 32 then bt x (8 + i) else bt x 31 := b_sshr 8 (by omega) x hi
/-! ===== nI under and, xor, >>>, one bit, 65535 ===== -/
theorem nx_or (a b : Nat) : nI a ||| nI b = nI (a ||| b) := by
  apply Int32.toBitVec_inj.mp
  rw [Int32.toBitVec_or]
  show BitVec.ofNat 32 a ||| BitVec.ofNat 32 b = BitVec.ofNat 32 (a ||| b)
  exact (BitVec.ofNat_or).symm
/-- a byte, a word -/
def Byt (x : Int32) : Prop := x &&& (255 : Int32) = x
def Wrd (x : Int32) : Prop := x &&& (65535 : Int32) = x
theorem by_hi {x : Int32} (h : Byt x) {i : Nat} (hi : 8 ≤ i) : bt x i = false := by
  have h2 : bt (x &&& 255) i = bt x i := by rw [show x &&& 255 = x from h]
  rw [b_and, b_255, decide_eq_false (by omega), Bool.and_false] at h2
  exact h2.symm
theorem Byt.mk (v : Int32) : Byt (v &&& (255 : Int32)) := by
  apply b_ext; intro i _
  rw [b_and, b_and, b_255]
  cases bt v i <;> cases decide (i < 8) <;> rfl
theorem Wrd.mk (v : Int32) : Wrd (v &&& (65535 : Int32)) := by
  apply b_ext; intro i _
  rw [b_and, b_and, b_65535]
  cases bt v i <;> cases decide (i < 16) <;> rfl
theorem Byt.of {x : Int32} (h : ∀ i, 8 ≤ i → i < 32 → bt x i = false) : Byt x := by
  apply b_ext; intro i hi
  rw [b_and, b_255]
  by_cases a : i < 8
  · simp [a]
  · rw [h i (by omega) hi]; rfl
abbrev p2 (a b : Int32) : Int32 := (a <<< ((8 : Int32) &&& (31 : Int32))) ||| b
theorem bt_p2 (a b : Int32) {i : Nat} (hi : i < 32) : bt (p2 a b) i = ((decide (8 ≤ i) && bt a (i - 8)) || bt b i) := by
  unfold p2; rw [b_or, b_shl8 _ hi]
theorem p2_hi {a b : Int32} (ha : Byt a) (hb : Byt b) : p2 a b >>> ((8 : Int32) &&& (31 : Int32)) = a := by
  apply b_ext; intro i hi
  rw [b_sshr8 _ hi]
  split
  · rename_i h
    rw [bt_p2 _ _ h, by_hi hb (by omega), decide_eq_true (by omega)]
    simp
  · rename_i h
    rw [bt_p2 _ _ (by decide), by_hi hb (by decide), by_hi ha (by decide), by_hi ha (by omega)]
    simp
theorem p2_lo {a b : Int32} (hb : Byt b) : p2 a b &&& (255 : Int32) = b := by
  apply b_ext; intro i hi
  rw [b_and, bt_p2 _ _ hi, b_255]
  by_cases h : i < 8
  · rw [decide_eq_false (by omega), decide_eq_true h]; simp
  · rw [by_hi hb (by omega), decide_eq_false h]; simp
theorem b_65280 : ∀ i, i < 32 → bt 65280 i = (decide (8 ≤ i) && decide (i < 16)) := by decide +kernel
theorem b_65520 : ∀ i, i < 32 → bt 65520 i = (decide (4 ≤ i) && decide (i < 16)) := by decide +kernel
theorem p2_up {a b f : Int32} (ha : Byt a) (hb : Byt b) : (p2 a b &&& (65280 : Int32)) ||| f = p2 a f := by
  apply b_ext; intro i hi
  rw [b_or, b_and, bt_p2 _ _ hi, bt_p2 _ _ hi, b_65280 i hi]
  by_cases h : i < 8
  · rw [decide_eq_false (show ¬ 8 ≤ i by omega)]; simp
  · rw [by_hi hb (by omega), decide_eq_true (show 8 ≤ i by omega)]
    by_cases h2 : i < 16
    · rw [decide_eq_true h2]; simp
    · rw [by_hi ha (show 8 ≤ i - 8 by omega)]; simp
theorem p2_16 (v : Int32) : p2 ((v >>> ((8 : Int32) &&& (31 : Int32))) &&& (255 : Int32)) (v &&& (255 : Int32)) = v &&& (65535 : Int32) := by
  apply b_ext; intro i hi
  rw [bt_p2 _ _ hi, b_and, b_and, b_and, b_255 (i - 8), b_255 i, b_65535]
  by_cases h : i < 8
  · rw [decide_eq_false (show ¬ 8 ≤ i by omega), decide_eq_true h, decide_eq_true (show i < 16 by omega)]; simp
  · rw [decide_eq_true (show 8 ≤ i by omega), decide_eq_false h, b_sshr8 _ (show i - 8 < 32 by omega), if_pos (by omega), show 8 + (i - 8) = i by omega]
    by_cases h2 : i < 16
    · rw [decide_eq_true h2, decide_eq_true (show i - 8 < 8 by omega)]; simp
    · rw [decide_eq_false h2, decide_eq_false (show ¬ i - 8 < 8 by omega)]; simp
/-- shifts and masks of a word -/
theorem sh_ff (v : Int32) : ((v &&& (65535 : Int32)) >>> ((8 : Int32) &&& (31 : Int32))) &&& (255 : Int32) = (v >>> ((8 : Int32) &&& (31 : Int32))) &&& (255 : Int32) := by
  apply b_ext; intro i hi
  rw [b_and, b_and, b_sshr8 _ hi, b_sshr8 _ hi, b_255]
  by_cases h : i < 8
  · rw [if_pos (by omega), if_pos (by omega), b_and, b_65535, decide_eq_true (show 8 + i < 16 by omega)]; simp
  · rw [decide_eq_false h]; simp
theorem an_ff (v : Int32) : (v &&& (65535 : Int32)) &&& (255 : Int32) = v &&& (255 : Int32) := by
  apply b_ext; intro i hi
  rw [b_and, b_and, b_and, b_255, b_65535]
  by_cases h : i < 8
  · rw [decide_eq_true h, decide_eq_true (show i < 16 by omega)]; simp
  · rw [decide_eq_false h]; simp
theorem p2_W {a b : Int32} (ha : Byt a) (hb : Byt b) : Wrd (p2 a b) := by
  apply b_ext; intro i hi
  rw [b_and, bt_p2 _ _ hi, b_65535]
  by_cases h : i < 16
  · rw [decide_eq_true h]; simp
  · rw [by_hi ha (show 8 ≤ i - 8 by omega), by_hi hb (by omega)]; simp
theorem Wrd.hi {v : Int32} (h : Wrd v) : Byt (v >>> ((8 : Int32) &&& (31 : Int32))) := by
  apply Byt.of; intro i h8 hi
  have key : ∀ j, 16 ≤ j → bt v j = false := fun j hj => by
    have h2 : bt (v &&& 65535) j = bt v j := by rw [show v &&& 65535 = v from h]
    rw [b_and, b_65535, decide_eq_false (by omega), Bool.and_false] at h2
    exact h2.symm
  rw [b_sshr8 _ hi]
  split
  · exact key _ (by omega)
  · exact key _ (by decide)
theorem Byt.wrd {v : Int32} (h : Byt v) : Wrd v := by
  apply b_ext; intro i hi
  rw [b_and, b_65535]
  by_cases a : i < 16
  · rw [decide_eq_true a]; simp
  · rw [by_hi h (by omega)]; simp
theorem Byt.or {a b : Int32} (ha : Byt a) (hb : Byt b) : Byt (a ||| b) := Byt.of (fun i h _ => by rw [b_or, by_hi ha h, by_hi hb h]; rfl)
theorem Byt.xor {a b : Int32} (ha : Byt a) (hb : Byt b) : Byt (a ^^^ b) := Byt.of (fun i h _ => by rw [b_xor, by_hi ha h, by_hi hb h]; rfl)
theorem Byt.and {a : Int32} (b : Int32) (ha : Byt a) : Byt (a &&& b) := Byt.of (fun i h _ => by rw [b_and, by_hi ha h]; rfl)
/-- sums under the mask -/
abbrev uN (x : Int32) : Nat := x.toBitVec.toNat
theorem un_lt (x : Int32) : uN x < 4294967296 := x.toBitVec.isLt
theorem un_inj {x y : Int32} (h : uN x = uN y) : x = y := Int32.toBitVec_inj.mp (BitVec.eq_of_toNat_eq h)
theorem un_add (x y : Int32) : uN (x + y) = (uN x + uN y) % 4294967296 := by
  show (x + y).toBitVec.toNat = _
  rw [Int32.toBitVec_add, BitVec.toNat_add]
theorem un_sub (x y : Int32) : uN (x - y) = (4294967296 - uN y + uN x) % 4294967296 := by
  show (x - y).toBitVec.toNat = _
  rw [Int32.toBitVec_sub, BitVec.toNat_sub]
theorem un_mask (x m : Int32) (k : Nat) (hm : m.toBitVec.toNat = 2 ^ k - 1) (hk : 2 ^ k ≤ 4294967296) : uN (x &&& m) = uN x % 2 ^ k := by
  rw [pk_and x k hm]
  exact pk_tn (Nat.lt_of_lt_of_le (Nat.mod_lt _ (Nat.two_pow_pos k)) hk)
theorem un_16 (x : Int32) : uN (x &&& (65535 : Int32)) = uN x % 65536 := un_mask x 65535 16 (by decide) (by decide)
theorem un_8 (x : Int32) : uN (x &&& (255 : Int32)) = uN x % 256 := un_mask x 255 8 (by decide) (by decide)
theorem mk_add (x y : Int32) : ((x &&& (65535 : Int32)) + y) &&& (65535 : Int32) = (x + y) &&& (65535 : Int32) := by
  apply un_inj
  rw [un_16, un_16, un_add, un_add, un_16]
  omega
theorem mk_sub (x y : Int32) : ((x &&& (65535 : Int32)) - y) &&& (65535 : Int32) = (x - y) &&& (65535 : Int32) := by
  apply un_inj
  rw [un_16, un_16, un_sub, un_sub, un_16]
  have := un_lt x; have := un_lt y
  omega
theorem mk_idem (x : Int32) : (x &&& (65535 : Int32)) &&& (65535 : Int32) = x &&& (65535 : Int32) := Wrd.mk x
theorem ad_11 (x : Int32) : x + (1 : Int32) + (1 : Int32) = x + (2 : Int32) := by
  apply un_inj; rw [un_add, un_add, un_add]
  show ((uN x + 1) % 4294967296 + 1) % 4294967296 = (uN x + 2) % 4294967296
  omega
theorem sb_11 (x : Int32) : x - (1 : Int32) - (1 : Int32) = x - (2 : Int32) := by
  apply un_inj; rw [un_sub, un_sub, un_sub]
  show (4294967296 - 1 + (4294967296 - 1 + uN x) % 4294967296) % 4294967296 = (4294967296 - 2 + uN x) % 4294967296
  have := un_lt x
  omega
/-- the words of the class, out of the reference's bytes -/
def pw (z n h c : Bool) (sp pc : Int32) (bs : Nat → Int32) : Nat → Int32 := fun j => if j = 0 then p2 (bs 7) (fX4_flags z n h c) else if j = 1 then p2 (bs 0) (bs 1) else if j = 2 then p2 (bs 2) (bs 3) else if j = 3 then p2 (bs 4) (bs 5) else if j = 4 then sp else if j = 5 then pc else 0
def Byts (bs : Nat → Int32) : Prop := ∀ i, Byt (bs i)
theorem Byts.up {bs : Nat → Int32} {k : Nat} {v : Int32} (h : Byts bs) (hv : Byt v) : Byts (upd bs k v) := fun i => by
  unfold upd; split
  · exact hv
  · exact h i
theorem fl_B (z n h c : Bool) : Byt (fX4_flags z n h c) := by
  cases z <;> cases n <;> cases h <;> cases c <;> (unfold Byt; decide)
theorem tn0 : (0 : Int32).toNatClampNeg = 0 := by decide
theorem tn1 : (1 : Int32).toNatClampNeg = 1 := by decide
theorem tn2 : (2 : Int32).toNatClampNeg = 2 := by decide
theorem tn3 : (3 : Int32).toNatClampNeg = 3 := by decide
theorem tn4 : (4 : Int32).toNatClampNeg = 4 := by decide
theorem tn5 : (5 : Int32).toNatClampNeg = 5 := by decide
theorem tn6 : (6 : Int32).toNatClampNeg = 6 := by decide
theorem tn7 : (7 : Int32).toNatClampNeg = 7 := by decide
section PW
variable {z n h c : Bool} {sp pc : Int32} {bs : Nat → Int32}
theorem r_a (hb : Byts bs) : fX1_a (pw z n h c sp pc bs) = bs 7 := p2_hi (hb 7) (fl_B z n h c)
theorem r_setA (hb : Byts bs) (v : Int32) : fX1_setA (pw z n h c sp pc bs) v = pw z n h c sp pc (upd bs 7 (v &&& (255 : Int32))) := by
  funext j
  show upd (pw z n h c sp pc bs) 0 (p2 (v &&& 255) (p2 (bs 7) (fX4_flags z n h c) &&& 255)) j = _
  rw [p2_lo (fl_B z n h c)]
  rcases j with _ | _ | _ | _ | _ | _ | j <;> simp [pw, upd]
theorem r_setF (hb : Byts bs) (z2 n2 h2 c2 : Bool) : fX1_setFlags (pw z n h c sp pc bs) z2 n2 h2 c2 = pw z2 n2 h2 c2 sp pc bs := by
  funext j
  show upd (pw z n h c sp pc bs) 0 ((p2 (bs 7) (fX4_flags z n h c) &&& 65280) ||| fX4_flags z2 n2 h2 c2) j = _
  rw [p2_up (hb 7) (fl_B z n h c)]
  rcases j with _ | _ | _ | _ | _ | _ | j <;> simp [pw, upd]
theorem p2_bit {a b m : Int32} (hm : Byt m) : p2 a b &&& m = b &&& m := by
  apply b_ext; intro i hi
  rw [b_and, b_and, bt_p2 _ _ hi]
  by_cases q : i < 8
  · rw [decide_eq_false (by omega)]; simp
  · rw [by_hi hm (by omega)]; simp
theorem r_fZ : fX1_flag (pw z n h c sp pc bs) (128 : Int32) = z := by
  show kIf (kEq (p2 (bs 7) (fX4_flags z n h c) &&& 128) 0) false true = z
  rw [p2_bit (by unfold Byt; decide)]
  cases z <;> cases n <;> cases h <;> cases c <;> decide
theorem r_fN : fX1_flag (pw z n h c sp pc bs) (64 : Int32) = n := by
  show kIf (kEq (p2 (bs 7) (fX4_flags z n h c) &&& 64) 0) false true = n
  rw [p2_bit (by unfold Byt; decide)]
  cases z <;> cases n <;> cases h <;> cases c <;> decide
theorem r_fH : fX1_flag (pw z n h c sp pc bs) (32 : Int32) = h := by
  show kIf (kEq (p2 (bs 7) (fX4_flags z n h c) &&& 32) 0) false true = h
  rw [p2_bit (by unfold Byt; decide)]
  cases z <;> cases n <;> cases h <;> cases c <;> decide
theorem r_fC : fX1_flag (pw z n h c sp pc bs) (16 : Int32) = c := by
  show kIf (kEq (p2 (bs 7) (fX4_flags z n h c) &&& 16) 0) false true = c
  rw [p2_bit (by unfold Byt; decide)]
  cases z <;> cases n <;> cases h <;> cases c <;> decide
theorem r_w0 : fX1_word (pw z n h c sp pc bs) (0 : Int32) = p2 (bs 7) (fX4_flags z n h c) := rfl
theorem r_w1 : fX1_word (pw z n h c sp pc bs) (1 : Int32) = fX4_pair bs (0 : Int32) := rfl
theorem r_w2 : fX1_word (pw z n h c sp pc bs) (2 : Int32) = fX4_pair bs (1 : Int32) := rfl
theorem r_w3 : fX1_word (pw z n h c sp pc bs) (3 : Int32) = fX4_hl bs := rfl
theorem r_w4 : fX1_word (pw z n h c sp pc bs) (4 : Int32) = sp := rfl
theorem r_w5 : fX1_word (pw z n h c sp pc bs) (5 : Int32) = pc := rfl
theorem r_s5 (v : Int32) : fX1_setWord (pw z n h c sp pc bs) (5 : Int32) v = (true, pw z n h c sp (v &&& (65535 : Int32)) bs) := by
  show (true, upd (pw z n h c sp pc bs) 5 (v &&& 65535)) = _
  refine congrArg (Prod.mk true) (funext fun j => ?_)
  rcases j with _ | _ | _ | _ | _ | _ | j <;> simp [pw, upd]
theorem r_s4 (v : Int32) : fX1_setWord (pw z n h c sp pc bs) (4 : Int32) v = (true, pw z n h c (v &&& (65535 : Int32)) pc bs) := by
  show (true, upd (pw z n h c sp pc bs) 4 (v &&& 65535)) = _
  refine congrArg (Prod.mk true) (funext fun j => ?_)
  rcases j with _ | _ | _ | _ | _ | _ | j <;> simp [pw, upd]
theorem r_s3 (v : Int32) : fX1_setWord (pw z n h c sp pc bs) (3 : Int32) v = (true, pw z n h c sp pc (fX4_setPair bs (2 : Int32) v)) := by
  show (true, upd (pw z n h c sp pc bs) 3 (v &&& 65535)) = (true, pw z n h c sp pc (upd (upd bs 4 ((v >>> ((8 : Int32) &&& (31 : Int32))) &&& (255 : Int32))) 5 (v &&& (255 : Int32))))
  rw [← p2_16 v]
  refine congrArg (Prod.mk true) (funext fun j => ?_)
  rcases j with _ | _ | _ | _ | _ | _ | j <;> simp [pw, upd]
theorem r_s2 (v : Int32) : fX1_setWord (pw z n h c sp pc bs) (2 : Int32) v = (true, pw z n h c sp pc (fX4_setPair bs (1 : Int32) v)) := by
  show (true, upd (pw z n h c sp pc bs) 2 (v &&& 65535)) = (true, pw z n h c sp pc (upd (upd bs 2 ((v >>> ((8 : Int32) &&& (31 : Int32))) &&& (255 : Int32))) 3 (v &&& (255 : Int32))))
  rw [← p2_16 v]
  refine congrArg (Prod.mk true) (funext fun j => ?_)
  rcases j with _ | _ | _ | _ | _ | _ | j <;> simp [pw, upd]
theorem r_s1 (v : Int32) : fX1_setWord (pw z n h c sp pc bs) (1 : Int32) v = (true, pw z n h c sp pc (fX4_setPair bs (0 : Int32) v)) := by
  show (true, upd (pw z n h c sp pc bs) 1 (v &&& 65535)) = (true, pw z n h c sp pc (upd (upd bs 0 ((v >>> ((8 : Int32) &&& (31 : Int32))) &&& (255 : Int32))) 1 (v &&& (255 : Int32))))
  rw [← p2_16 v]
  refine congrArg (Prod.mk true) (funext fun j => ?_)
  rcases j with _ | _ | _ | _ | _ | _ | j <;> simp [pw, upd]
theorem setPair_mask (v : Int32) (k : Int32) : fX4_setPair bs k (v &&& (65535 : Int32)) = fX4_setPair bs k v := by
  show upd (upd bs _ (((v &&& 65535) >>> ((8 : Int32) &&& (31 : Int32))) &&& 255)) _ ((v &&& 65535) &&& 255) = upd (upd bs _ ((v >>> ((8 : Int32) &&& (31 : Int32))) &&& 255)) _ (v &&& 255)
  rw [sh_ff, an_ff]
/-- the flags of a number, and the number's lowest byte without its lowest four bits -/
theorem b_240 : ∀ i, i < 32 → bt 240 i = (decide (4 ≤ i) && decide (i < 8)) := by decide +kernel
theorem fl_set (v : Int32) : fX4_flags (fX4_setFlags z n h c v).1 (fX4_setFlags z n h c v).2.1 (fX4_setFlags z n h c v).2.2.1 (fX4_setFlags z n h c v).2.2.2 = v &&& (240 : Int32) := by
  have k1 : ∀ m : Int32, ∀ i, i < 32 → m.toBitVec = BitVec.twoPow 32 i → ((v &&& m = 0) ↔ bt v i = false) := by
    intro m i hi hm
    constructor
    · intro q
      have q2 : bt (v &&& m) i = false := by rw [q]; exact b_0 i
      rw [b_and] at q2
      have q3 : bt m i = true := by unfold bt; rw [hm]; simp [hi]
      rw [q3, Bool.and_true] at q2
      exact q2
    · intro q
      apply b_ext; intro j hj
      rw [b_and, b_0]
      by_cases e : j = i
      · subst e; rw [q]; rfl
      · have q3 : bt m j = false := by unfold bt; rw [hm, BitVec.getLsbD_twoPow]; simp [hj]; omega
        rw [q3, Bool.and_false]
  have e7 := k1 128 7 (by decide) (by decide)
  have e6 := k1 64 6 (by decide) (by decide)
  have e5 := k1 32 5 (by decide) (by decide)
  have e4 := k1 16 4 (by decide) (by decide)
  show fX4_flags (kIf (kEq (v &&& 128) 0) false true) (kIf (kEq (v &&& 64) 0) false true) (kIf (kEq (v &&& 32) 0) false true) (kIf (kEq (v &&& 16) 0) false true) = _
  have s : ∀ (m : Int32) (i : Nat), ((v &&& m = 0) ↔ bt v i = false) → kIf (kEq (v &&& m) 0) false true = bt v i := by
    intro m i e
    by_cases q : v &&& m = 0
    · rw [kt_eq q, e.mp q]
    · rw [kf_eq q]
      cases w : bt v i
      · exact absurd (e.mpr w) q
      · rfl
  rw [s _ _ e7, s _ _ e6, s _ _ e5, s _ _ e4]
  have fin : ∀ a b d f : Bool, ∀ i, i < 32 → bt (fX4_flags a b d f) i = (if i = 7 then a else if i = 6 then b else if i = 5 then d else if i = 4 then f else false) := by decide +kernel
  apply b_ext; intro i hi
  rw [fin _ _ _ _ i hi, b_and, b_240 i hi]
  by_cases q : 4 ≤ i ∧ i < 8
  · rw [decide_eq_true q.1, decide_eq_true q.2]
    rcases (show i = 4 ∨ i = 5 ∨ i = 6 ∨ i = 7 by omega) with rfl | rfl | rfl | rfl <;> simp
  · have : (decide (4 ≤ i) && decide (i < 8)) = false := by simp; omega
    rw [this, Bool.and_false]
    rw [if_neg (by omega), if_neg (by omega), if_neg (by omega), if_neg (by omega)]
theorem r_s0 (v : Int32) : fX1_setWord (pw z n h c sp pc bs) (0 : Int32) v = (true, pw (fX4_setFlags z n h c v).1 (fX4_setFlags z n h c v).2.1 (fX4_setFlags z n h c v).2.2.1 (fX4_setFlags z n h c v).2.2.2 sp pc (upd bs 7 ((v >>> ((8 : Int32) &&& (31 : Int32))) &&& (255 : Int32)))) := by
  show (true, upd (pw z n h c sp pc bs) 0 (v &&& 65520)) = _
  have e : v &&& 65520 = p2 ((v >>> ((8 : Int32) &&& (31 : Int32))) &&& (255 : Int32)) (v &&& (240 : Int32)) := by
    apply b_ext; intro i hi
    rw [bt_p2 _ _ hi, b_and, b_and, b_and, b_255, b_240 i hi, b_65520 i hi]
    by_cases q : i < 8
    · rw [decide_eq_false (show ¬ 8 ≤ i by omega), decide_eq_true q, decide_eq_true (show i < 16 by omega)]; simp
    · rw [decide_eq_true (show 8 ≤ i by omega), decide_eq_false q, b_sshr8 _ (show i - 8 < 32 by omega), if_pos (by omega), show 8 + (i - 8) = i by omega, decide_eq_true (show 4 ≤ i by omega)]
      by_cases q2 : i < 16
      · rw [decide_eq_true q2, decide_eq_true (show i - 8 < 8 by omega)]; simp
      · rw [decide_eq_false q2, decide_eq_false (show ¬ i - 8 < 8 by omega)]; simp
  rw [e, ← fl_set (z := z) (n := n) (h := h) (c := c) v]
  refine congrArg (Prod.mk true) (funext fun j => ?_)
  rcases j with _ | _ | _ | _ | _ | _ | j <;> simp [pw, upd]
end PW
