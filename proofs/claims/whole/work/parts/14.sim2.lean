/-! Sums, shifts, the decimal adjustment, beside the reference's. -/
theorem by_of {v : Int32} (h : Byt v) : ∃ j : Nat, j < 256 ∧ v = nI j := by
  obtain ⟨j, hj, e⟩ := pk_andE v (m := 255) 8 (by decide)
  exact ⟨j, hj, h.symm.trans e⟩
theorem m16_0 : ∀ j : Fin 256, nI j.val - nI j.val / (16 : Int32) * (16 : Int32) = nI j.val &&& (15 : Int32) := by decide +kernel
theorem m2_0 : ∀ j : Fin 256, nI j.val - nI j.val / (2 : Int32) * (2 : Int32) = nI j.val &&& (1 : Int32) := by decide +kernel
theorem m64_0 : ∀ j : Fin 256, nI j.val - nI j.val / (64 : Int32) * (64 : Int32) = nI j.val &&& (63 : Int32) := by decide +kernel
theorem m4_0 : ∀ j : Fin 256, nI j.val - nI j.val / (4 : Int32) * (4 : Int32) = nI j.val &&& (3 : Int32) := by decide +kernel
theorem m128_0 : ∀ j : Fin 256, kIf (kLe (nI j.val) (127 : Int32)) false true = kIf (kEq (nI j.val &&& (128 : Int32)) (0 : Int32)) false true := by decide +kernel
theorem m1_0 : ∀ j : Fin 256, kIf (kEq (nI j.val &&& (1 : Int32)) (1 : Int32)) true false = kIf (kEq (nI j.val &&& (1 : Int32)) (0 : Int32)) false true := by decide +kernel
theorem m16 {v : Int32} (h : Byt v) : v - v / (16 : Int32) * (16 : Int32) = v &&& (15 : Int32) := by
  obtain ⟨j, hj, rfl⟩ := by_of h; exact m16_0 ⟨j, hj⟩
theorem m2 {v : Int32} (h : Byt v) : v - v / (2 : Int32) * (2 : Int32) = v &&& (1 : Int32) := by
  obtain ⟨j, hj, rfl⟩ := by_of h; exact m2_0 ⟨j, hj⟩
theorem m64 {v : Int32} (h : Byt v) : v - v / (64 : Int32) * (64 : Int32) = v &&& (63 : Int32) := by
  obtain ⟨j, hj, rfl⟩ := by_of h; exact m64_0 ⟨j, hj⟩
theorem m4 {v : Int32} (h : Byt v) : v - v / (4 : Int32) * (4 : Int32) = v &&& (3 : Int32) := by
  obtain ⟨j, hj, rfl⟩ := by_of h; exact m4_0 ⟨j, hj⟩
theorem m128 {v : Int32} (h : Byt v) : kIf (kLe v (127 : Int32)) false true = kIf (kEq (v &&& (128 : Int32)) (0 : Int32)) false true := by
  obtain ⟨j, hj, rfl⟩ := by_of h; exact m128_0 ⟨j, hj⟩
theorem m1 {v : Int32} (h : Byt v) : kIf (kEq (v &&& (1 : Int32)) (1 : Int32)) true false = kIf (kEq (v &&& (1 : Int32)) (0 : Int32)) false true := by
  obtain ⟨j, hj, rfl⟩ := by_of h; exact m1_0 ⟨j, hj⟩
theorem bI_k (z : Bool) : kEq (bI z) (0 : Int32) = !z := by cases z <;> decide
theorem bI_b (z : Bool) : kIf (!z) false true = z := by cases z <;> rfl
theorem bI_nb (z : Bool) : kIf (!z) true false = !z := by cases z <;> rfl
theorem kIf_i (q : Bool) : kIf q true false = q := by cases q <;> rfl
section S2
variable {z n h c : Bool} {sp pc cn cl : Int32} {bs mm : Nat → Int32}
/-- the words out of five answers of the reference -/
abbrev pw5 (sp pc : Int32) (r : Bool × Bool × Bool × Bool × (Nat → Int32)) : Nat → Int32 := pw r.1 r.2.1 r.2.2.1 r.2.2.2.1 sp pc r.2.2.2.2
theorem s_add (hb : Byts bs) (v k : Int32) : fX2_add (pw z n h c sp pc bs) v k = pw5 sp pc (fX4_adds z n h c bs v k) ∧ Byts (fX4_adds z n h c bs v k).2.2.2.2 := by
  refine ⟨?_, hb.up (Byt.mk _)⟩
  simp only [fX2_add, fX4_adds, fX4_flagsAre, kU1_e, kU4_e, r_a hb, r_setA hb, r_setF (hb.up (Byt.mk _)), tn7]
theorem s_subK (hb : Byts bs) (v k : Int32) : fX2_subtract (pw z n h c sp pc bs) v k true = pw (fX4_less z n h c bs v k).2.1 (fX4_less z n h c bs v k).2.2.1 (fX4_less z n h c bs v k).2.2.2.1 (fX4_less z n h c bs v k).2.2.2.2 sp pc (upd bs 7 (fX4_less z n h c bs v k).1) := by
  simp only [fX2_subtract, fX4_less, fX4_flagsAre, kU1_e, kU4_e, r_a hb, r_setA hb, bI_k, Bool.not_true, kIf_f, r_setF (hb.up (Byt.mk _)), tn7]
theorem s_subC (hb : Byts bs) (v k : Int32) : fX2_subtract (pw z n h c sp pc bs) v k false = pw (fX4_less z n h c bs v k).2.1 (fX4_less z n h c bs v k).2.2.1 (fX4_less z n h c bs v k).2.2.2.1 (fX4_less z n h c bs v k).2.2.2.2 sp pc bs := by
  simp only [fX2_subtract, fX4_less, fX4_flagsAre, kU1_e, kU4_e, r_a hb, bI_k, Bool.not_false, kIf_t, r_setF hb, tn7]
theorem less_B (v k : Int32) : Byt (fX4_less z n h c bs v k).1 := Byt.mk _
theorem s_logic (hb : Byts bs) {v : Int32} (hv : Byt v) (q : Bool) : fX2_putLogic (pw z n h c sp pc bs) v q = pw (kIf (kEq v (0 : Int32)) true false) false q false sp pc (upd bs 7 v) := by
  simp only [fX2_putLogic, kU1_e, r_setA hb, show v &&& (255 : Int32) = v from hv, r_setF (hb.up hv)]
theorem up7 (v : Int32) : upd bs 7 v 7 = v := rfl
theorem ap_0 {w : Nat → Int32} {v : Int32} : fX2_apply w (0 : Int32) v = fX2_add w v (0 : Int32) := (kE1 rfl).trans ((kE1 rfl).trans ((kt_eq rfl).trans (kE1 rfl)))
theorem su_0 {v : Int32} : fX4_sums z n h c bs (0 : Int32) v = fX4_adds z n h c bs v (0 : Int32) := (kE1 rfl).trans ((kt_eq rfl).trans (kE5 rfl))
theorem ap_1 {w : Nat → Int32} {v : Int32} : fX2_apply w (1 : Int32) v = fX2_add w v (bI (kIf (kEq (bI (fX1_flag w (16 : Int32))) (0 : Int32)) false true)) := (kE1 rfl).trans ((kE1 rfl).trans ((kf_eq (by decide)).trans ((kt_eq rfl).trans (kE1 rfl))))
theorem su_1 {v : Int32} : fX4_sums z n h c bs (1 : Int32) v = fX4_adds z n h c bs v (bI (kIf (kEq (bI c) (0 : Int32)) false true)) := (kE1 rfl).trans ((kf_eq (by decide)).trans ((kt_eq rfl).trans (kE5 rfl)))
theorem ap_2 {w : Nat → Int32} {v : Int32} : fX2_apply w (2 : Int32) v = fX2_subtract w v (0 : Int32) true := (kE1 rfl).trans ((kE1 rfl).trans ((kf_eq (by decide)).trans ((kf_eq (by decide)).trans ((kt_eq rfl).trans ((kE1 rfl).trans (kE1 rfl))))))
theorem su_2 {v : Int32} : fX4_sums z n h c bs (2 : Int32) v = ((fX4_less z n h c bs v (0 : Int32)).2.1, (fX4_less z n h c bs v (0 : Int32)).2.2.1, (fX4_less z n h c bs v (0 : Int32)).2.2.2.1, (fX4_less z n h c bs v (0 : Int32)).2.2.2.2, upd bs 7 (fX4_less z n h c bs v (0 : Int32)).1) := (kE1 rfl).trans ((kf_eq (by decide)).trans ((kf_eq (by decide)).trans ((kt_eq rfl).trans ((kE5 rfl).trans (kE1 rfl)))))
theorem ap_3 {w : Nat → Int32} {v : Int32} : fX2_apply w (3 : Int32) v = fX2_subtract w v (bI (kIf (kEq (bI (fX1_flag w (16 : Int32))) (0 : Int32)) false true)) true := (kE1 rfl).trans ((kE1 rfl).trans ((kf_eq (by decide)).trans ((kf_eq (by decide)).trans ((kf_eq (by decide)).trans ((kt_eq rfl).trans (kE1 rfl))))))
theorem su_3 {v : Int32} : fX4_sums z n h c bs (3 : Int32) v = ((fX4_less z n h c bs v (bI (kIf (kEq (bI c) (0 : Int32)) false true))).2.1, (fX4_less z n h c bs v (bI (kIf (kEq (bI c) (0 : Int32)) false true))).2.2.1, (fX4_less z n h c bs v (bI (kIf (kEq (bI c) (0 : Int32)) false true))).2.2.2.1, (fX4_less z n h c bs v (bI (kIf (kEq (bI c) (0 : Int32)) false true))).2.2.2.2, upd bs 7 (fX4_less z n h c bs v (bI (kIf (kEq (bI c) (0 : Int32)) false true))).1) := (kE1 rfl).trans ((kf_eq (by decide)).trans ((kf_eq (by decide)).trans ((kf_eq (by decide)).trans ((kt_eq rfl).trans ((kE5 rfl).trans (kE1 rfl))))))
theorem ap_4 {w : Nat → Int32} {v : Int32} : fX2_apply w (4 : Int32) v = fX2_putLogic w (fX1_a w &&& v) true := (kE1 rfl).trans ((kE1 rfl).trans ((kf_eq (by decide)).trans ((kf_eq (by decide)).trans ((kf_eq (by decide)).trans ((kf_eq (by decide)).trans ((kt_eq rfl).trans ((kE1 rfl).trans (kE1 rfl))))))))
theorem su_4 {v : Int32} : fX4_sums z n h c bs (4 : Int32) v = (kIf (kEq (bs 7 &&& v) (0 : Int32)) true false, false, true, false, upd bs 7 (bs 7 &&& v)) := (kE1 rfl).trans ((kf_eq (by decide)).trans ((kf_eq (by decide)).trans ((kf_eq (by decide)).trans ((kf_eq (by decide)).trans ((kt_eq rfl).trans ((kE1 rfl).trans ((kE1 rfl).trans (kE4 rfl))))))))
theorem ap_5 {w : Nat → Int32} {v : Int32} : fX2_apply w (5 : Int32) v = fX2_putLogic w (fX1_a w ^^^ v) false := (kE1 rfl).trans ((kE1 rfl).trans ((kf_eq (by decide)).trans ((kf_eq (by decide)).trans ((kf_eq (by decide)).trans ((kf_eq (by decide)).trans ((kf_eq (by decide)).trans ((kt_eq rfl).trans ((kE1 rfl).trans (kE1 rfl)))))))))
theorem su_5 {v : Int32} : fX4_sums z n h c bs (5 : Int32) v = (kIf (kEq (bs 7 ^^^ v) (0 : Int32)) true false, false, false, false, upd bs 7 (bs 7 ^^^ v)) := (kE1 rfl).trans ((kf_eq (by decide)).trans ((kf_eq (by decide)).trans ((kf_eq (by decide)).trans ((kf_eq (by decide)).trans ((kf_eq (by decide)).trans ((kt_eq rfl).trans ((kE1 rfl).trans ((kE1 rfl).trans (kE4 rfl)))))))))
theorem ap_6 {w : Nat → Int32} {v : Int32} : fX2_apply w (6 : Int32) v = fX2_putLogic w (fX1_a w ||| v) false := (kE1 rfl).trans ((kE1 rfl).trans ((kf_eq (by decide)).trans ((kf_eq (by decide)).trans ((kf_eq (by decide)).trans ((kf_eq (by decide)).trans ((kf_eq (by decide)).trans ((kf_eq (by decide)).trans ((kt_eq rfl).trans ((kE1 rfl).trans (kE1 rfl))))))))))
theorem su_6 {v : Int32} : fX4_sums z n h c bs (6 : Int32) v = (kIf (kEq (bs 7 ||| v) (0 : Int32)) true false, false, false, false, upd bs 7 (bs 7 ||| v)) := (kE1 rfl).trans ((kf_eq (by decide)).trans ((kf_eq (by decide)).trans ((kf_eq (by decide)).trans ((kf_eq (by decide)).trans ((kf_eq (by decide)).trans ((kf_eq (by decide)).trans ((kt_eq rfl).trans ((kE1 rfl).trans ((kE1 rfl).trans (kE4 rfl))))))))))
theorem ap_7 {w : Nat → Int32} {v : Int32} : fX2_apply w (7 : Int32) v = fX2_subtract w v (0 : Int32) false := (kE1 rfl).trans ((kE1 rfl).trans ((kf_eq (by decide)).trans ((kf_eq (by decide)).trans ((kf_eq (by decide)).trans ((kf_eq (by decide)).trans ((kf_eq (by decide)).trans ((kf_eq (by decide)).trans ((kf_eq (by decide)).trans ((kt_eq rfl).trans ((kE1 rfl).trans (kE1 rfl)))))))))))
theorem su_7 {v : Int32} : fX4_sums z n h c bs (7 : Int32) v = ((fX4_less z n h c bs v (0 : Int32)).2.1, (fX4_less z n h c bs v (0 : Int32)).2.2.1, (fX4_less z n h c bs v (0 : Int32)).2.2.2.1, (fX4_less z n h c bs v (0 : Int32)).2.2.2.2, bs) := (kE1 rfl).trans ((kf_eq (by decide)).trans ((kf_eq (by decide)).trans ((kf_eq (by decide)).trans ((kf_eq (by decide)).trans ((kf_eq (by decide)).trans ((kf_eq (by decide)).trans ((kf_eq (by decide)).trans (kE5 rfl))))))))
theorem s_apply {k : Int32} (hk : vp_in k 8) (hb : Byts bs) {v : Int32} (hv : Byt v) : fX2_apply (pw z n h c sp pc bs) k v = pw5 sp pc (fX4_sums z n h c bs k v) ∧ Byts (fX4_sums z n h c bs k v).2.2.2.2 := by
  rcases c8 hk with rfl | rfl | rfl | rfl | rfl | rfl | rfl | rfl
  · rw [ap_0, su_0]; exact s_add hb v 0
  · rw [ap_1, su_1, r_fC]; exact s_add hb v _
  · rw [ap_2, su_2]; exact ⟨s_subK hb v 0, hb.up (less_B v 0)⟩
  · rw [ap_3, su_3, r_fC]; exact ⟨s_subK hb v _, hb.up (less_B v _)⟩
  · rw [ap_4, su_4, r_a hb]; exact ⟨s_logic hb ((hb 7).and v) true, hb.up ((hb 7).and v)⟩
  · rw [ap_5, su_5, r_a hb]; exact ⟨s_logic hb ((hb 7).xor hv) false, hb.up ((hb 7).xor hv)⟩
  · rw [ap_6, su_6, r_a hb]; exact ⟨s_logic hb ((hb 7).or hv) false, hb.up ((hb 7).or hv)⟩
  · rw [ap_7, su_7]; exact ⟨s_subC hb v 0, hb⟩
theorem s_inc (hb : Byts bs) (v : Int32) : fX2_increment (pw z n h c sp pc bs) v = ((fX4_increased z n h c v).1, pw (fX4_increased z n h c v).2.1 (fX4_increased z n h c v).2.2.1 (fX4_increased z n h c v).2.2.2.1 (fX4_increased z n h c v).2.2.2.2 sp pc bs) := by
  simp only [fX2_increment, fX4_increased, fX4_flagsAre, kU1_e, kU4_e, r_fC, r_setF hb, m16 (Byt.mk _)]
theorem s_dec (hb : Byts bs) (v : Int32) : fX2_decrement (pw z n h c sp pc bs) v = ((fX4_decreased z n h c v).1, pw (fX4_decreased z n h c v).2.1 (fX4_decreased z n h c v).2.2.1 (fX4_decreased z n h c v).2.2.2.1 (fX4_decreased z n h c v).2.2.2.2 sp pc bs) := by
  simp only [fX2_decrement, fX4_decreased, fX4_flagsAre, kU1_e, kU4_e, r_fC, r_setF hb, m16 (Byt.mk _)]
theorem s_shift {k : Int32} (hk : vp_in k 8) (hb : Byts bs) {v : Int32} (hv : Byt v) : fX2_shift (pw z n h c sp pc bs) k v = ((fX4_turned z n h c k v).1, pw (fX4_turned z n h c k v).2.1 (fX4_turned z n h c k v).2.2.1 (fX4_turned z n h c k v).2.2.2.1 (fX4_turned z n h c k v).2.2.2.2 sp pc bs) ∧ Byt (fX4_turned z n h c k v).1 := by
  refine ⟨?_, Byt.mk _⟩
  have o0 : kEq ((0 : Int32) - (0 : Int32) / (2 : Int32) * (2 : Int32)) 0 = true := by decide
  have o2 : kEq ((2 : Int32) - (2 : Int32) / (2 : Int32) * (2 : Int32)) 0 = true := by decide
  have o4 : kEq ((4 : Int32) - (4 : Int32) / (2 : Int32) * (2 : Int32)) 0 = true := by decide
  have o6 : kEq ((6 : Int32) - (6 : Int32) / (2 : Int32) * (2 : Int32)) 0 = true := by decide
  have o1 : kEq ((1 : Int32) - (1 : Int32) / (2 : Int32) * (2 : Int32)) 0 = false := by decide
  have o3 : kEq ((3 : Int32) - (3 : Int32) / (2 : Int32) * (2 : Int32)) 0 = false := by decide
  have o5 : kEq ((5 : Int32) - (5 : Int32) / (2 : Int32) * (2 : Int32)) 0 = false := by decide
  have o7 : kEq ((7 : Int32) - (7 : Int32) / (2 : Int32) * (2 : Int32)) 0 = false := by decide
  have c0 : fX2_carryOfShift (0 : Int32) v = kIf (kEq (v &&& (128 : Int32)) (0 : Int32)) false true := rfl
  have c1 : fX2_carryOfShift (1 : Int32) v = kIf (kEq (v &&& (1 : Int32)) (0 : Int32)) false true := rfl
  have c2 : fX2_carryOfShift (2 : Int32) v = kIf (kEq (v &&& (128 : Int32)) (0 : Int32)) false true := rfl
  have c3 : fX2_carryOfShift (3 : Int32) v = kIf (kEq (v &&& (1 : Int32)) (0 : Int32)) false true := rfl
  have c4 : fX2_carryOfShift (4 : Int32) v = kIf (kEq (v &&& (128 : Int32)) (0 : Int32)) false true := rfl
  have c5 : fX2_carryOfShift (5 : Int32) v = kIf (kEq (v &&& (1 : Int32)) (0 : Int32)) false true := rfl
  have c6 : fX2_carryOfShift (6 : Int32) v = false := rfl
  have c7 : fX2_carryOfShift (7 : Int32) v = kIf (kEq (v &&& (1 : Int32)) (0 : Int32)) false true := rfl
  rcases c8 hk with rfl | rfl | rfl | rfl | rfl | rfl | rfl | rfl
  · simp only [fX2_shift, fX4_turned, fX4_flagsAre, kU1_e, kU2_e, kU4_e, r_fC, bI_k, bI_b, r_setF hb, c0, kIf_t, kIf_f, o0, m128 hv, kq00]
  · simp only [fX2_shift, fX4_turned, fX4_flagsAre, kU1_e, kU2_e, kU4_e, r_fC, bI_k, bI_b, r_setF hb, c1, kIf_t, kIf_f, o1, m2 hv, m1 hv, kq10, kq11]
  · simp only [fX2_shift, fX4_turned, fX4_flagsAre, kU1_e, kU2_e, kU4_e, r_fC, bI_k, bI_b, r_setF hb, c2, kIf_t, kIf_f, o2, m128 hv, kq20, kq21, kq22]
  · simp only [fX2_shift, fX4_turned, fX4_flagsAre, kU1_e, kU2_e, kU4_e, r_fC, bI_k, bI_b, r_setF hb, c3, kIf_t, kIf_f, o3, m2 hv, m1 hv, kq30, kq31, kq32, kq33]
  · simp only [fX2_shift, fX4_turned, fX4_flagsAre, kU1_e, kU2_e, kU4_e, r_fC, bI_k, bI_b, r_setF hb, c4, kIf_t, kIf_f, o4, m128 hv, kq40, kq41, kq42, kq43, kq44]
  · simp only [fX2_shift, fX4_turned, fX4_flagsAre, kU1_e, kU2_e, kU4_e, r_fC, bI_k, bI_b, r_setF hb, c5, kIf_t, kIf_f, o5, m2 hv, m1 hv, kq50, kq51, kq52, kq53, kq54, kq55]
  · simp only [fX2_shift, fX4_turned, fX4_flagsAre, kU1_e, kU2_e, kU4_e, r_fC, bI_k, bI_b, r_setF hb, c6, kIf_t, kIf_f, o6, m128 hv, kq60, kq61, kq62, kq63, kq64, kq65, kq66]
  · simp only [fX2_shift, fX4_turned, fX4_flagsAre, kU1_e, kU2_e, kU4_e, r_fC, bI_k, bI_b, r_setF hb, c7, kIf_t, kIf_f, o7, m2 hv, m1 hv, kq70, kq71, kq72, kq73, kq74, kq75, kq76, kq77]
theorem s_daa (hb : Byts bs) : fX2_adjustDecimal (pw z n h c sp pc bs) = pw5 sp pc (fX4_adjusts z n h c bs) ∧ Byts (fX4_adjusts z n h c bs).2.2.2.2 := by
  refine ⟨?_, hb.up (Byt.mk _)⟩
  have e1 : (0 : Int32) + (6 : Int32) = 6 := by decide
  have e2 : (0 : Int32) + (96 : Int32) = 96 := by decide
  have e3 : (6 : Int32) + (0 : Int32) = 6 := by decide
  have e4 : (0 : Int32) + (0 : Int32) = 0 := by decide
  have e5 : (6 : Int32) + (96 : Int32) = 102 := by decide
  simp only [fX2_adjustDecimal, fX4_adjusts, fX4_flagsAre, kU1_e, kU2_e, kU4_e, r_a hb, r_fN, r_fH, r_fC, r_setA hb, r_a (hb.up (Byt.mk _)), r_setF (hb.up (Byt.mk _)), tn7, m16 (hb 7), up7]
  generalize kLe (bs 7 &&& (15 : Int32)) (9 : Int32) = q1
  generalize kLe (bs 7) (153 : Int32) = q2
  cases q1 <;> cases q2 <;> cases h <;> cases n <;> cases c <;> simp only [bI_k, Bool.not_true, Bool.not_false, kIf_t, kIf_f, e1, e2, e3, e4, e5]
theorem s_spPlus (hb : Byts bs) (e : Int32) : fX2_spPlus (pw z n h c sp pc bs) e = (sp + e.toInt8.toInt32, pw (fX4_moved z n h c sp e).2.1 (fX4_moved z n h c sp e).2.2.1 (fX4_moved z n h c sp e).2.2.2.1 (fX4_moved z n h c sp e).2.2.2.2 sp pc bs) := by
  have e15 : (sp &&& (255 : Int32)) &&& (15 : Int32) = sp &&& (15 : Int32) := by
    apply b_ext; intro i hi
    have h15 : ∀ i, i < 32 → bt 15 i = decide (i < 4) := by decide +kernel
    rw [b_and, b_and, b_and, b_255, h15 i hi]
    by_cases q : i < 4
    · rw [decide_eq_true q, decide_eq_true (show i < 8 by omega)]; simp
    · rw [decide_eq_false q]; simp
  unfold fX2_spPlus fX4_moved
  rw [r_w4]
  simp only [kU1_e, kU4_e, fX4_flagsAre]
  rw [r_setF hb, e15]
theorem moved_1 (e : Int32) : (fX4_moved z n h c sp e).1 = (sp + e.toInt8.toInt32) &&& (65535 : Int32) := rfl
theorem s_addHl (hb : Byts bs) (v : Int32) : fX2_addToHl (pw z n h c sp pc bs) v = pw z false (kIf (kLe ((fX4_hl bs &&& (4095 : Int32)) + (v &&& (4095 : Int32))) (4095 : Int32)) false true) (kIf (kLe (fX4_hl bs + v) (65535 : Int32)) false true) sp pc (fX4_setPair bs (2 : Int32) (fX4_hl bs + v)) := by
  unfold fX2_addToHl
  rw [r_w3]
  simp only [kU1_e]
  rw [r_s3]
  simp only [kU2_e]
  rw [r_fZ, r_setF (setPair_B hb _ _)]
end S2
