def fX2_carryOfShift  (a1 : Int32) (a2 : Int32) : Bool := (kIf (kEq a1 (6 : Int32)) false (kU1 (((kIf (kEq (a1 &&& (1 : Int32)) (0 : Int32)) (128 : Int32) (1 : Int32)) : Int32)) (fun (x3 : Int32) => (kIf (kEq (a2 &&& x3) (0 : Int32)) false true))))
def rmX2_carryOfShift : Room := { frames := 0, cells := 0, slots := 0, locals := 0 }
def wwX2_carryOfShift : List Cond := Cond.code yX2_carryOfShift cX2_carryOfShift 2 (some .boolean) :: wsL_law
theorem hdX2_carryOfShift : yX2_carryOfShift.cls = RX2 ∧ yX2_carryOfShift.cls ≠ "java/lang/invoke/MethodHandle" ∧ yX2_carryOfShift.cls ≠ "java/lang/invoke/VarHandle" ∧ (parseMethodDescriptor yX2_carryOfShift.desc).map (fun d => d.parameters.length) = some 2 := by decide +kernel
set_option maxHeartbeats 4000000 in
set_option maxRecDepth 100000 in
theorem c_X2_carryOfShift (l : Launch) (D : va_G) (sz : Nat) (a1 : Int32) (a2 : Int32)  : Met l yX2_carryOfShift wwX2_carryOfShift rmX2_carryOfShift (va_Pc [.int a1, .int a2] (kp D [] [] sz)) (va_Qi (fun (r : Int32) (_ : Unit) => ∃ z9 : Bool, r = bI z9 ∧ z9 = fX2_carryOfShift a1 a2) (fun _ t => kq D [] [] (va_A [] sz) t) (va_A [] sz)) 0 0 (va_A [] sz) := by
  refine Met.ofW (cc := cX2_carryOfShift) (maxL := 2) (ret := (some .boolean)) (by decide) rfl ?_
  intro p e s m args below meth c s₁ B hml hv
  obtain ⟨rfl, hsz, hP, hK, hD0, hT⟩ := hv
  have hx := B.exec
  have hb := B.bytes
  have hr := B.returns
  have hts := atoms_spec (ws := wwX2_carryOfShift) B.pre
  have hws : ∀ w ∈ wsL_law, w.before _ s = true := fun w h => hts w (List.mem_cons_of_mem _ h)
  have hown : s.vm.findClass RX2 = some m.cls := findClass_of_methodNamed B.named
  have hlocks := B.notSynchronized
  subst hsz
  have hD := hD0.self (sz := s.heap.size)
  generalize hAe : va_A [] s.heap.size = A at hD hT ⊢
  have hA : ∀ q : Nat, s.heap.size ≤ q → A q := fun q h => by rw [← hAe]; exact Or.inr h
  have hS : va_S A s.heap s.heap [] := va_S.rf
  have hl := lv_entry ([.int a1, .int a2]) (n := 2) (Nat.le_of_ble_eq_true rfl)
  rw [lg_entry_eq]
  generalize (lg_sl ([.int a1, .int a2]) ++ List.replicate (2 - (lg_sl ([.int a1, .int a2])).length) Slot.unset).toArray = ls at hl ⊢
  have hl : lv_has ls 2 [(0, .int a1), (1, .int a2)] := hl
  generalize hQ : MQ _ _ _ _ _ _ _ = Q
  obtain ⟨H, hHe⟩ : ∃ H : Heap, H = s.heap := ⟨_, rfl⟩
  obtain ⟨locs, hle⟩ : ∃ L : List Loc, L = [] := ⟨_, rfl⟩
  have hP : va_P D vwCl [] H := by rw [hHe]; exact hP
  have hS : va_S A s.heap H locs := by rw [hHe, hle]; exact hS
  refine kw_start hHe.symm hle.symm ?_
  have hf : fX2_carryOfShift a1 a2 = fX2_carryOfShift a1 a2 := rfl
  refine lv_iload_n hx hb dX2_carryOfShift_0 rfl (lv_at hl 0 rfl) ?_
  refine lv_bipush (v := 6) hx hb dX2_carryOfShift_1 (by decide) ?_
  refine lv_icmp_ne (tgt := 8) hx hb dX2_carryOfShift_3 (by decide) (fun c1 => ?_) (fun c1 => ?_)
  · have hf := hf.trans (kf_eq c1)
    refine lv_iload_n hx hb dX2_carryOfShift_8 rfl (lv_at hl 1 rfl) ?_
    refine lv_iload_n hx hb dX2_carryOfShift_9 rfl (lv_at hl 0 rfl) ?_
    refine lv_iconst (v := 1) hx hb dX2_carryOfShift_10 (by decide) ?_
    refine lv_iand hx hb dX2_carryOfShift_11 ?_
    obtain ⟨TJ4, hTJ4⟩ : ∃ T9 : Int32, T9 = (kIf (kEq (a1 &&& (1 : Int32)) (0 : Int32)) (128 : Int32) (1 : Int32)) := ⟨_, rfl⟩
    have J4 : ∀ (x3 : Int32), x3 = TJ4 → ∀ (H : Heap) (locs : List Loc) (ls : Array Slot), lv_has ls 2 [(0, .int a1), (1, .int a2)] → va_P D vwCl [] H → va_D A [] → va_S A s.heap H locs → W p l e (headSpec wwX2_carryOfShift rmX2_carryOfShift).room s m ([.int a1, .int a2] : List Value).toArray below meth c H locs 0 0 Q (F0 m 22 ls [.int x3, .int a2]) := by
      intro x3 eJ4 H locs ls hl hP hD hS
      have hf := hf.trans (kE1 (eJ4.trans hTJ4))
      refine lv_iand hx hb dX2_carryOfShift_22 ?_
      refine lv_if_eq (tgt := 30) hx hb dX2_carryOfShift_23 (by decide) (fun c5 => ?_) (fun c5 => ?_)
      · have hf := hf.trans (kt_eq c5)
        refine lv_iconst (v := 0) hx hb dX2_carryOfShift_30 (by decide) ?_
        rw [← hQ]
        exact W.zret (v := bI false) (ty := .boolean) hx hb hr (bI_nar _) (fun t ht hW => ⟨⟨bI false, (), rfl, ⟨false, rfl, hf.symm⟩, by rw [ht]; exact hP, va_K.moved hW.alike hK, hD⟩, hS.F ht⟩) hS.2.2 dX2_carryOfShift_31
      · have hf := hf.trans (kf_eq c5)
        refine lv_iconst (v := 1) hx hb dX2_carryOfShift_26 (by decide) ?_
        refine lv_goto (tgt := 31) hx hb dX2_carryOfShift_27 (by decide) ?_
        rw [← hQ]
        exact W.zret (v := bI true) (ty := .boolean) hx hb hr (bI_nar _) (fun t ht hW => ⟨⟨bI true, (), rfl, ⟨true, rfl, hf.symm⟩, by rw [ht]; exact hP, va_K.moved hW.alike hK, hD⟩, hS.F ht⟩) hS.2.2 dX2_carryOfShift_31
    have hf := hTJ4
    refine lv_if_ne (tgt := 21) hx hb dX2_carryOfShift_12 (by decide) (fun c2 => ?_) (fun c2 => ?_)
    · have hf := hf.trans (kf_eq c2)
      refine lv_iconst (v := 1) hx hb dX2_carryOfShift_21 (by decide) ?_
      exact J4 (1 : Int32) hf.symm H locs ls (lv_sub hl [0, 1] rfl) hP hD hS
    · have hf := hf.trans (kt_eq c2)
      refine lv_sipush (v := 128) hx hb dX2_carryOfShift_15 (by decide) ?_
      refine lv_goto (tgt := 22) hx hb dX2_carryOfShift_18 (by decide) ?_
      exact J4 (128 : Int32) hf.symm H locs ls (lv_sub hl [0, 1] rfl) hP hD hS
  · have hf := hf.trans (kt_eq c1)
    refine lv_iconst (v := 0) hx hb dX2_carryOfShift_6 (by decide) ?_
    rw [← hQ]
    exact W.zret (v := bI false) (ty := .boolean) hx hb hr (bI_nar _) (fun t ht hW => ⟨⟨bI false, (), rfl, ⟨false, rfl, hf.symm⟩, by rw [ht]; exact hP, va_K.moved hW.alike hK, hD⟩, hS.F ht⟩) hS.2.2 dX2_carryOfShift_7
def fX2_shift (v_wd : Nat → Int32) (a1 : Int32) (a2 : Int32) : Int32 × (Nat → Int32) := (kU1 (fX1_flag v_wd (16 : Int32)) (fun (z3 : Bool) => (kU1 (((kIf (kEq (bI z3) (0 : Int32)) false true) : Bool)) (fun (z5 : Bool) => (kU1 (((kIf (kEq a1 (0 : Int32)) (kU1 (((a2 <<< ((1 : Int32) &&& (31 : Int32))) ||| (a2 >>> ((7 : Int32) &&& (31 : Int32))))) (fun (x8 : Int32) => x8)) (kIf (kEq a1 (1 : Int32)) (kU1 (((a2 >>> ((1 : Int32) &&& (31 : Int32))) ||| (a2 <<< ((7 : Int32) &&& (31 : Int32))))) (fun (x10 : Int32) => x10)) (kIf (kEq a1 (2 : Int32)) (kU1 (((a2 <<< ((1 : Int32) &&& (31 : Int32))) ||| bI z5)) (fun (x12 : Int32) => x12)) (kIf (kEq a1 (3 : Int32)) (kU1 (((a2 >>> ((1 : Int32) &&& (31 : Int32))) ||| (bI z5 <<< ((7 : Int32) &&& (31 : Int32))))) (fun (x14 : Int32) => x14)) (kIf (kEq a1 (4 : Int32)) (kU1 ((a2 <<< ((1 : Int32) &&& (31 : Int32)))) (fun (x16 : Int32) => x16)) (kIf (kEq a1 (5 : Int32)) (kU1 (((a2 >>> ((1 : Int32) &&& (31 : Int32))) ||| (a2 &&& (128 : Int32)))) (fun (x18 : Int32) => x18)) (kIf (kEq a1 (6 : Int32)) (kU1 (((a2 <<< ((4 : Int32) &&& (31 : Int32))) ||| (a2 >>> ((4 : Int32) &&& (31 : Int32))))) (fun (x20 : Int32) => x20)) (kU1 ((a2 >>> ((1 : Int32) &&& (31 : Int32)))) (fun (x21 : Int32) => x21))))))))) : Int32)) (fun (x22 : Int32) => (kU1 ((x22 &&& (255 : Int32))) (fun (x24 : Int32) => (kU1 (((kIf (kEq x24 (0 : Int32)) true false) : Bool)) (fun (z26 : Bool) => (kU1 (fX2_carryOfShift a1 a2) (fun (z29 : Bool) => (kU1 (fX1_setFlags v_wd z26 false false z29) (fun (b30 : Nat → Int32) => (x24, b30)))))))))))))))
def rmX2_shift : Room := { frames := 1, cells := 0, slots := 0, locals := 25 }
def wwX2_shift : List Cond := Cond.code yX2_shift cX2_shift 5 (some .int) :: wsL_law
theorem hdX2_shift : yX2_shift.cls = RX2 ∧ yX2_shift.cls ≠ "java/lang/invoke/MethodHandle" ∧ yX2_shift.cls ≠ "java/lang/invoke/VarHandle" ∧ (parseMethodDescriptor yX2_shift.desc).map (fun d => d.parameters.length) = some 2 := by decide +kernel
set_option maxHeartbeats 4000000 in
set_option maxRecDepth 100000 in
theorem c_X2_shift (l : Launch) (D : va_G) (cI : ClassId) (sm rg wa sz : Nat) (v_wd : Nat → Int32) (a1 : Int32) (a2 : Int32)  : Met l yX2_shift wwX2_shift rmX2_shift (va_Pc [.ref sm, .int a1, .int a2] (kp D (kX2 cI sm rg wa v_wd) [(cI, .int)] sz)) (va_Qi (fun (r : Int32) (u9 : (Nat → Int32)) => (r, u9) = fX2_shift v_wd a1 a2) (fun u9 t => kq D (kX2 cI sm rg wa u9) [(cI, .int)] (va_A (kX2 cI sm rg wa v_wd) sz) t) (va_A (kX2 cI sm rg wa v_wd) sz)) 0 0 (va_A (kX2 cI sm rg wa v_wd) sz) := by
  refine Met.ofW (cc := cX2_shift) (maxL := 5) (ret := (some .int)) (by decide) rfl ?_
  intro p e s m args below meth c s₁ B hml hv
  obtain ⟨rfl, hsz, hP, hK, hD0, hT⟩ := hv
  have hx := B.exec
  have hb := B.bytes
  have hr := B.returns
  have hts := atoms_spec (ws := wwX2_shift) B.pre
  have hws : ∀ w ∈ wsL_law, w.before _ s = true := fun w h => hts w (List.mem_cons_of_mem _ h)
  have hown : s.vm.findClass RX2 = some m.cls := findClass_of_methodNamed B.named
  have hlocks := B.notSynchronized
  subst hsz
  have hD := hD0.self (sz := s.heap.size)
  generalize hAe : va_A (kX2 cI sm rg wa v_wd) s.heap.size = A at hD hT ⊢
  have hA : ∀ q : Nat, s.heap.size ≤ q → A q := fun q h => by rw [← hAe]; exact Or.inr h
  have hS : va_S A s.heap s.heap [] := va_S.rf
  have hl := lv_entry ([.ref sm, .int a1, .int a2]) (n := 5) (Nat.le_of_ble_eq_true rfl)
  rw [lg_entry_eq]
  generalize (lg_sl ([.ref sm, .int a1, .int a2]) ++ List.replicate (5 - (lg_sl ([.ref sm, .int a1, .int a2])).length) Slot.unset).toArray = ls at hl ⊢
  have hl : lv_has ls 5 [(0, .ref sm), (1, .int a1), (2, .int a2)] := hl
  generalize hQ : MQ _ _ _ _ _ _ _ = Q
  obtain ⟨H, hHe⟩ : ∃ H : Heap, H = s.heap := ⟨_, rfl⟩
  obtain ⟨locs, hle⟩ : ∃ L : List Loc, L = [] := ⟨_, rfl⟩
  have hP : va_P D vwCl (kX2 cI sm rg wa v_wd) H := by rw [hHe]; exact hP
  have hS : va_S A s.heap H locs := by rw [hHe, hle]; exact hS
  refine kw_start hHe.symm hle.symm ?_
  have hf : fX2_shift v_wd a1 a2 = fX2_shift v_wd a1 a2 := rfl
  refine lv_aload_n hx hb dX2_shift_0 rfl (lv_at hl 0 rfl) ?_
  refine va_get (D := D) (ci := 2) (v := .ref rg) (C := RX2) (T := TX2) (N := 1) hx hb hws inlX2 hown hK hP 0 rfl rfl 0 (by decide) (hws _ mw_33) (fun _ h9 => h9) rfl dX2_shift_1 ?_
  refine lv_bipush (v := 16) hx hb dX2_shift_4 (by decide) ?_
  refine kc_Vi (wr := [(sm, .inr (2, [.ref rg]))]) (As := [.int (16 : Int32)]) (rest := []) (fun _ => (kX2 cI sm rg wa v_wd)) ⟨hx, hb, hml, hown, hws⟩ hK hP hD hS hA hT (c_X1_flag l D cI rg wa H.size v_wd (16 : Int32)) (cwV 1 hws (gw_V mw_203 mw_204 mw_205 mw_32 mw_206) rfl rfl rfl hdX1_flag ⟨Nat.le_of_ble_eq_true rfl, Nat.le_of_ble_eq_true rfl⟩) [1, 2] [0] [0] [0, 1, 2] rfl rfl rfl rfl (by decide) rfl (fun _ => rfl) rfl 1 rfl rfl rfl rfl hl.1 rfl (Nat.le_of_ble_eq_true rfl) dX2_shift_6 ⟨Nat.zero_le _, Nat.zero_le _⟩ (fun r2 _ H locs hw1 hP hD hS => ?_)
  obtain ⟨z3, rfl, hw1⟩ := hw1
  have hP : va_P D vwCl (kX2 cI sm rg wa v_wd) H := hP
  have hD : va_D A (kX2 cI sm rg wa v_wd) := hD
  have hf := hf.trans (kE1 hw1)
  obtain ⟨TJ6, hTJ6⟩ : ∃ T9 : Bool, T9 = (kIf (kEq (bI z3) (0 : Int32)) false true) := ⟨_, rfl⟩
  have J6 : ∀ (z5 : Bool), z5 = TJ6 → ∀ (H : Heap) (locs : List Loc) (ls : Array Slot), lv_has ls 5 [(0, .ref sm), (1, .int a1), (2, .int a2)] → va_P D vwCl (kX2 cI sm rg wa v_wd) H → va_D A (kX2 cI sm rg wa v_wd) → va_S A s.heap H locs → W p l e (headSpec wwX2_shift rmX2_shift).room s m ([.ref sm, .int a1, .int a2] : List Value).toArray below meth c H locs 0 0 Q (F0 m 17 ls [.int (bI z5)]) := by
    intro z5 eJ6 H locs ls hl hP hD hS
    have hf := hf.trans (kE1 (eJ6.trans hTJ6))
    refine lv_istore_n (lv' := [(3, .int (bI z5)), (0, .ref sm), (1, .int a1), (2, .int a2)]) hx hb dX2_shift_17 rfl hl (by decide) rfl (fun ls hl => ?_)
    refine lv_iload_n hx hb dX2_shift_18 rfl (lv_at hl 2 rfl) ?_
    obtain ⟨TJ23, hTJ23⟩ : ∃ T9 : Int32, T9 = (kIf (kEq a1 (0 : Int32)) (kU1 (((a2 <<< ((1 : Int32) &&& (31 : Int32))) ||| (a2 >>> ((7 : Int32) &&& (31 : Int32))))) (fun (x8 : Int32) => x8)) (kIf (kEq a1 (1 : Int32)) (kU1 (((a2 >>> ((1 : Int32) &&& (31 : Int32))) ||| (a2 <<< ((7 : Int32) &&& (31 : Int32))))) (fun (x10 : Int32) => x10)) (kIf (kEq a1 (2 : Int32)) (kU1 (((a2 <<< ((1 : Int32) &&& (31 : Int32))) ||| bI z5)) (fun (x12 : Int32) => x12)) (kIf (kEq a1 (3 : Int32)) (kU1 (((a2 >>> ((1 : Int32) &&& (31 : Int32))) ||| (bI z5 <<< ((7 : Int32) &&& (31 : Int32))))) (fun (x14 : Int32) => x14)) (kIf (kEq a1 (4 : Int32)) (kU1 ((a2 <<< ((1 : Int32) &&& (31 : Int32)))) (fun (x16 : Int32) => x16)) (kIf (kEq a1 (5 : Int32)) (kU1 (((a2 >>> ((1 : Int32) &&& (31 : Int32))) ||| (a2 &&& (128 : Int32)))) (fun (x18 : Int32) => x18)) (kIf (kEq a1 (6 : Int32)) (kU1 (((a2 <<< ((4 : Int32) &&& (31 : Int32))) ||| (a2 >>> ((4 : Int32) &&& (31 : Int32))))) (fun (x20 : Int32) => x20)) (kU1 ((a2 >>> ((1 : Int32) &&& (31 : Int32)))) (fun (x21 : Int32) => x21))))))))) := ⟨_, rfl⟩
    have J23 : ∀ (x22 : Int32), x22 = TJ23 → ∀ (H : Heap) (locs : List Loc) (ls : Array Slot), lv_has ls 5 [(4, .int x22), (3, .int (bI z5)), (0, .ref sm), (1, .int a1), (2, .int a2)] → va_P D vwCl (kX2 cI sm rg wa v_wd) H → va_D A (kX2 cI sm rg wa v_wd) → va_S A s.heap H locs → W p l e (headSpec wwX2_shift rmX2_shift).room s m ([.ref sm, .int a1, .int a2] : List Value).toArray below meth c H locs 0 0 Q (F0 m 148 ls []) := by
      intro x22 eJ23 H locs ls hl hP hD hS
      have hf := hf.trans (kE1 (eJ23.trans hTJ23))
      refine lv_iload hx hb dX2_shift_148 (lv_at hl 0 rfl) ?_
      refine lv_sipush (v := 255) hx hb dX2_shift_150 (by decide) ?_
      refine lv_iand hx hb dX2_shift_153 ?_
      refine lv_topi (fun x24 ex24 => ?_)
      have hf := hf.trans (kE1 ex24)
      refine lv_istore (lv' := [(4, .int x24), (3, .int (bI z5)), (0, .ref sm), (1, .int a1), (2, .int a2)]) hx hb dX2_shift_154 hl (by decide) rfl (fun ls hl => ?_)
      refine lv_aload_n hx hb dX2_shift_156 rfl (lv_at hl 2 rfl) ?_
      refine va_get (D := D) (ci := 2) (v := .ref rg) (C := RX2) (T := TX2) (N := 1) hx hb hws inlX2 hown hK hP 0 rfl rfl 0 (by decide) (hws _ mw_33) (fun _ h9 => h9) rfl dX2_shift_157 ?_
      refine lv_iload hx hb dX2_shift_160 (lv_at hl 0 rfl) ?_
      obtain ⟨TJ27, hTJ27⟩ : ∃ T9 : Bool, T9 = (kIf (kEq x24 (0 : Int32)) true false) := ⟨_, rfl⟩
      have J27 : ∀ (z26 : Bool), z26 = TJ27 → ∀ (H : Heap) (locs : List Loc) (ls : Array Slot), lv_has ls 5 [(4, .int x24), (3, .int (bI z5)), (0, .ref sm), (1, .int a1), (2, .int a2)] → va_P D vwCl (kX2 cI sm rg wa v_wd) H → va_D A (kX2 cI sm rg wa v_wd) → va_S A s.heap H locs → W p l e (headSpec wwX2_shift rmX2_shift).room s m ([.ref sm, .int a1, .int a2] : List Value).toArray below meth c H locs 0 0 Q (F0 m 170 ls [.int (bI z26), .ref rg]) := by
        intro z26 eJ27 H locs ls hl hP hD hS
        have hf := hf.trans (kE1 (eJ27.trans hTJ27))
        refine lv_iconst (v := 0) hx hb dX2_shift_170 (by decide) ?_
        refine lv_iconst (v := 0) hx hb dX2_shift_171 (by decide) ?_
        refine lv_iload_n hx hb dX2_shift_172 rfl (lv_at hl 3 rfl) ?_
        refine lv_iload_n hx hb dX2_shift_173 rfl (lv_at hl 4 rfl) ?_
        refine kc_Si (As := [.int a1, .int a2]) (rest := [.int (0 : Int32), .int (0 : Int32), .int (bI z26), .ref rg]) ⟨hx, hb, hml, hown, hws⟩ hK hP hD hS hA hT (c_X2_carryOfShift l D H.size a1 a2) (va_cwS 2 hws (gw_S mw_207 mw_208 mw_18 mw_209) rfl rfl rfl hdX2_carryOfShift.2 ⟨Nat.le_of_ble_eq_true rfl, Nat.le_of_ble_eq_true rfl⟩) rfl hl.1 rfl (Nat.le_of_ble_eq_true rfl) dX2_shift_174 ⟨Nat.zero_le _, Nat.zero_le _⟩ (fun r28 H locs hwr28 hP hD hS => ?_)
        obtain ⟨z29, rfl, hwr28⟩ := hwr28
        have hf := hf.trans (kE1 hwr28)
        refine kc_Vv (wr := [(sm, .inr (2, [.ref rg]))]) (As := [.int (bI z26), .int (bI false), .int (bI false), .int (bI z29)]) (rest := []) (fun u9 => (kX2 cI sm rg wa u9)) ⟨hx, hb, hml, hown, hws⟩ hK hP hD hS hA hT (c_X1_setFlags l D cI rg wa H.size v_wd z26 false false z29) (cwV 4 hws (gw_V mw_210 mw_211 mw_212 mw_32 mw_213) rfl rfl rfl hdX1_setFlags ⟨Nat.le_of_ble_eq_true rfl, Nat.le_of_ble_eq_true rfl⟩) [1, 2] [0] [0] [0, 1, 2] rfl rfl rfl rfl (by decide) rfl (fun _ => rfl) rfl 1 rfl rfl rfl rfl hl.1 rfl (Nat.le_of_ble_eq_true rfl) dX2_shift_177 ⟨Nat.zero_le _, Nat.zero_le _⟩ (fun b30 H locs hw31 hP hD hS => ?_)
        have hP : va_P D vwCl (kX2 cI sm rg wa b30) H := hP
        have hD : va_D A (kX2 cI sm rg wa b30) := hD
        have hf := hf.trans (kE1 hw31)
        refine lv_iload hx hb dX2_shift_180 (lv_at hl 0 rfl) ?_
        rw [← hQ]
        exact W.iret (v := x24) hx hb hr (fun t ht hW => ⟨⟨x24, b30, rfl, hf.symm, by rw [ht]; exact hP, va_K.moved hW.alike hK, hD⟩, hS.F ht⟩) hS.2.2 dX2_shift_182
      have hf := hTJ27
      refine lv_if_ne (tgt := 169) hx hb dX2_shift_162 (by decide) (fun c25 => ?_) (fun c25 => ?_)
      · have hf := hf.trans (kf_eq c25)
        refine lv_iconst (v := 0) hx hb dX2_shift_169 (by decide) ?_
        exact J27 false hf.symm H locs ls (lv_sub hl [0, 1, 2, 3, 4] rfl) hP hD hS
      · have hf := hf.trans (kt_eq c25)
        refine lv_iconst (v := 1) hx hb dX2_shift_165 (by decide) ?_
        refine lv_goto (tgt := 170) hx hb dX2_shift_166 (by decide) ?_
        exact J27 true hf.symm H locs ls (lv_sub hl [0, 1, 2, 3, 4] rfl) hP hD hS
    have hf := hTJ23
    by_cases c7 : a1 = (0 : Int32)
    · have hf := hf.trans (kt_eq c7)
      refine lv_tableIn (off := 41) (tgt := 60) hx hb dX2_shift_19 (by rw [c7]; decide) (by rw [c7]; decide) (by rw [c7]; decide) (by decide) ?_
      refine lv_iload_n hx hb dX2_shift_60 rfl (lv_at hl 3 rfl) ?_
      refine lv_iconst (v := 1) hx hb dX2_shift_61 (by decide) ?_
      refine lv_ishl hx hb dX2_shift_62 ?_
      refine lv_iload_n hx hb dX2_shift_63 rfl (lv_at hl 3 rfl) ?_
      refine lv_bipush (v := 7) hx hb dX2_shift_64 (by decide) ?_
      refine lv_ishr hx hb dX2_shift_66 ?_
      refine lv_ior hx hb dX2_shift_67 ?_
      refine lv_topi (fun x8 ex8 => ?_)
      have hf := hf.trans (kE1 ex8)
      refine lv_istore (lv' := [(4, .int x8), (3, .int (bI z5)), (0, .ref sm), (1, .int a1), (2, .int a2)]) hx hb dX2_shift_68 hl (by decide) rfl (fun ls hl => ?_)
      refine lv_goto (tgt := 148) hx hb dX2_shift_70 (by decide) ?_
      exact J23 x8 hf.symm H locs ls (lv_sub hl [0, 1, 2, 3, 4] rfl) hP hD hS
    · have hf := hf.trans (kf_eq c7)
      by_cases c9 : a1 = (1 : Int32)
      · have hf := hf.trans (kt_eq c9)
        refine lv_tableIn (off := 54) (tgt := 73) hx hb dX2_shift_19 (by rw [c9]; decide) (by rw [c9]; decide) (by rw [c9]; decide) (by decide) ?_
        refine lv_iload_n hx hb dX2_shift_73 rfl (lv_at hl 3 rfl) ?_
        refine lv_iconst (v := 1) hx hb dX2_shift_74 (by decide) ?_
        refine lv_ishr hx hb dX2_shift_75 ?_
        refine lv_iload_n hx hb dX2_shift_76 rfl (lv_at hl 3 rfl) ?_
        refine lv_bipush (v := 7) hx hb dX2_shift_77 (by decide) ?_
        refine lv_ishl hx hb dX2_shift_79 ?_
        refine lv_ior hx hb dX2_shift_80 ?_
        refine lv_topi (fun x10 ex10 => ?_)
        have hf := hf.trans (kE1 ex10)
        refine lv_istore (lv' := [(4, .int x10), (3, .int (bI z5)), (0, .ref sm), (1, .int a1), (2, .int a2)]) hx hb dX2_shift_81 hl (by decide) rfl (fun ls hl => ?_)
        refine lv_goto (tgt := 148) hx hb dX2_shift_83 (by decide) ?_
        exact J23 x10 hf.symm H locs ls (lv_sub hl [0, 1, 2, 3, 4] rfl) hP hD hS
      · have hf := hf.trans (kf_eq c9)
        by_cases c11 : a1 = (2 : Int32)
        · have hf := hf.trans (kt_eq c11)
          refine lv_tableIn (off := 67) (tgt := 86) hx hb dX2_shift_19 (by rw [c11]; decide) (by rw [c11]; decide) (by rw [c11]; decide) (by decide) ?_
          refine lv_iload_n hx hb dX2_shift_86 rfl (lv_at hl 3 rfl) ?_
          refine lv_iconst (v := 1) hx hb dX2_shift_87 (by decide) ?_
          refine lv_ishl hx hb dX2_shift_88 ?_
          refine lv_iload_n hx hb dX2_shift_89 rfl (lv_at hl 0 rfl) ?_
          refine lv_ior hx hb dX2_shift_90 ?_
          refine lv_topi (fun x12 ex12 => ?_)
          have hf := hf.trans (kE1 ex12)
          refine lv_istore (lv' := [(4, .int x12), (3, .int (bI z5)), (0, .ref sm), (1, .int a1), (2, .int a2)]) hx hb dX2_shift_91 hl (by decide) rfl (fun ls hl => ?_)
          refine lv_goto (tgt := 148) hx hb dX2_shift_93 (by decide) ?_
          exact J23 x12 hf.symm H locs ls (lv_sub hl [0, 1, 2, 3, 4] rfl) hP hD hS
        · have hf := hf.trans (kf_eq c11)
          by_cases c13 : a1 = (3 : Int32)
          · have hf := hf.trans (kt_eq c13)
            refine lv_tableIn (off := 77) (tgt := 96) hx hb dX2_shift_19 (by rw [c13]; decide) (by rw [c13]; decide) (by rw [c13]; decide) (by decide) ?_
            refine lv_iload_n hx hb dX2_shift_96 rfl (lv_at hl 3 rfl) ?_
            refine lv_iconst (v := 1) hx hb dX2_shift_97 (by decide) ?_
            refine lv_ishr hx hb dX2_shift_98 ?_
            refine lv_iload_n hx hb dX2_shift_99 rfl (lv_at hl 0 rfl) ?_
            refine lv_bipush (v := 7) hx hb dX2_shift_100 (by decide) ?_
            refine lv_ishl hx hb dX2_shift_102 ?_
            refine lv_ior hx hb dX2_shift_103 ?_
            refine lv_topi (fun x14 ex14 => ?_)
            have hf := hf.trans (kE1 ex14)
            refine lv_istore (lv' := [(4, .int x14), (3, .int (bI z5)), (0, .ref sm), (1, .int a1), (2, .int a2)]) hx hb dX2_shift_104 hl (by decide) rfl (fun ls hl => ?_)
            refine lv_goto (tgt := 148) hx hb dX2_shift_106 (by decide) ?_
            exact J23 x14 hf.symm H locs ls (lv_sub hl [0, 1, 2, 3, 4] rfl) hP hD hS
          · have hf := hf.trans (kf_eq c13)
            by_cases c15 : a1 = (4 : Int32)
            · have hf := hf.trans (kt_eq c15)
              refine lv_tableIn (off := 90) (tgt := 109) hx hb dX2_shift_19 (by rw [c15]; decide) (by rw [c15]; decide) (by rw [c15]; decide) (by decide) ?_
              refine lv_iload_n hx hb dX2_shift_109 rfl (lv_at hl 3 rfl) ?_
              refine lv_iconst (v := 1) hx hb dX2_shift_110 (by decide) ?_
              refine lv_ishl hx hb dX2_shift_111 ?_
              refine lv_topi (fun x16 ex16 => ?_)
              have hf := hf.trans (kE1 ex16)
              refine lv_istore (lv' := [(4, .int x16), (3, .int (bI z5)), (0, .ref sm), (1, .int a1), (2, .int a2)]) hx hb dX2_shift_112 hl (by decide) rfl (fun ls hl => ?_)
              refine lv_goto (tgt := 148) hx hb dX2_shift_114 (by decide) ?_
              exact J23 x16 hf.symm H locs ls (lv_sub hl [0, 1, 2, 3, 4] rfl) hP hD hS
            · have hf := hf.trans (kf_eq c15)
              by_cases c17 : a1 = (5 : Int32)
              · have hf := hf.trans (kt_eq c17)
                refine lv_tableIn (off := 98) (tgt := 117) hx hb dX2_shift_19 (by rw [c17]; decide) (by rw [c17]; decide) (by rw [c17]; decide) (by decide) ?_
                refine lv_iload_n hx hb dX2_shift_117 rfl (lv_at hl 3 rfl) ?_
                refine lv_iconst (v := 1) hx hb dX2_shift_118 (by decide) ?_
                refine lv_ishr hx hb dX2_shift_119 ?_
                refine lv_iload_n hx hb dX2_shift_120 rfl (lv_at hl 3 rfl) ?_
                refine lv_sipush (v := 128) hx hb dX2_shift_121 (by decide) ?_
                refine lv_iand hx hb dX2_shift_124 ?_
                refine lv_ior hx hb dX2_shift_125 ?_
                refine lv_topi (fun x18 ex18 => ?_)
                have hf := hf.trans (kE1 ex18)
                refine lv_istore (lv' := [(4, .int x18), (3, .int (bI z5)), (0, .ref sm), (1, .int a1), (2, .int a2)]) hx hb dX2_shift_126 hl (by decide) rfl (fun ls hl => ?_)
                refine lv_goto (tgt := 148) hx hb dX2_shift_128 (by decide) ?_
                exact J23 x18 hf.symm H locs ls (lv_sub hl [0, 1, 2, 3, 4] rfl) hP hD hS
              · have hf := hf.trans (kf_eq c17)
                by_cases c19 : a1 = (6 : Int32)
                · have hf := hf.trans (kt_eq c19)
                  refine lv_tableIn (off := 112) (tgt := 131) hx hb dX2_shift_19 (by rw [c19]; decide) (by rw [c19]; decide) (by rw [c19]; decide) (by decide) ?_
                  refine lv_iload_n hx hb dX2_shift_131 rfl (lv_at hl 3 rfl) ?_
                  refine lv_iconst (v := 4) hx hb dX2_shift_132 (by decide) ?_
                  refine lv_ishl hx hb dX2_shift_133 ?_
                  refine lv_iload_n hx hb dX2_shift_134 rfl (lv_at hl 3 rfl) ?_
                  refine lv_iconst (v := 4) hx hb dX2_shift_135 (by decide) ?_
                  refine lv_ishr hx hb dX2_shift_136 ?_
                  refine lv_ior hx hb dX2_shift_137 ?_
                  refine lv_topi (fun x20 ex20 => ?_)
                  have hf := hf.trans (kE1 ex20)
                  refine lv_istore (lv' := [(4, .int x20), (3, .int (bI z5)), (0, .ref sm), (1, .int a1), (2, .int a2)]) hx hb dX2_shift_138 hl (by decide) rfl (fun ls hl => ?_)
                  refine lv_goto (tgt := 148) hx hb dX2_shift_140 (by decide) ?_
                  exact J23 x20 hf.symm H locs ls (lv_sub hl [0, 1, 2, 3, 4] rfl) hP hD hS
                · have hf := hf.trans (kf_eq c19)
                  refine lv_tableOut (tgt := 143) hx hb dX2_shift_19 (by have n0 := lv_neT c7 (a := 0) rfl; have n1 := lv_neT c9 (a := 1) rfl; have n2 := lv_neT c11 (a := 2) rfl; have n3 := lv_neT c13 (a := 3) rfl; have n4 := lv_neT c15 (a := 4) rfl; have n5 := lv_neT c17 (a := 5) rfl; have n6 := lv_neT c19 (a := 6) rfl; omega) (by decide) ?_
                  refine lv_iload_n hx hb dX2_shift_143 rfl (lv_at hl 3 rfl) ?_
                  refine lv_iconst (v := 1) hx hb dX2_shift_144 (by decide) ?_
                  refine lv_ishr hx hb dX2_shift_145 ?_
                  refine lv_topi (fun x21 ex21 => ?_)
                  have hf := hf.trans (kE1 ex21)
                  refine lv_istore (lv' := [(4, .int x21), (3, .int (bI z5)), (0, .ref sm), (1, .int a1), (2, .int a2)]) hx hb dX2_shift_146 hl (by decide) rfl (fun ls hl => ?_)
                  exact J23 x21 hf.symm H locs ls (lv_sub hl [0, 1, 2, 3, 4] rfl) hP hD hS
  have hf := hTJ6
  refine lv_if_eq (tgt := 16) hx hb dX2_shift_9 (by decide) (fun c4 => ?_) (fun c4 => ?_)
  · have hf := hf.trans (kt_eq c4)
    refine lv_iconst (v := 0) hx hb dX2_shift_16 (by decide) ?_
    exact J6 false hf.symm H locs ls (lv_sub hl [0, 1, 2] rfl) hP hD hS
  · have hf := hf.trans (kf_eq c4)
    refine lv_iconst (v := 1) hx hb dX2_shift_12 (by decide) ?_
    refine lv_goto (tgt := 17) hx hb dX2_shift_13 (by decide) ?_
    exact J6 true hf.symm H locs ls (lv_sub hl [0, 1, 2] rfl) hP hD hS
def fX2_testBit (v_wd : Nat → Int32) (a1 : Int32) (a2 : Int32) : (Nat → Int32) := (kU1 (((kIf (kEq ((a2 >>> (a1 &&& (31 : Int32))) &&& (1 : Int32)) (0 : Int32)) true false) : Bool)) (fun (z2 : Bool) => (kU1 (fX1_flag v_wd (16 : Int32)) (fun (z6 : Bool) => (kU1 (fX1_setFlags v_wd z2 false true z6) (fun (b7 : Nat → Int32) => b7))))))
def rmX2_testBit : Room := { frames := 1, cells := 0, slots := 0, locals := 25 }
def wwX2_testBit : List Cond := Cond.code yX2_testBit cX2_testBit 3 none :: wsL_law
theorem hdX2_testBit : yX2_testBit.cls = RX2 ∧ yX2_testBit.cls ≠ "java/lang/invoke/MethodHandle" ∧ yX2_testBit.cls ≠ "java/lang/invoke/VarHandle" ∧ (parseMethodDescriptor yX2_testBit.desc).map (fun d => d.parameters.length) = some 2 := by decide +kernel
set_option maxHeartbeats 4000000 in
set_option maxRecDepth 100000 in
theorem c_X2_testBit (l : Launch) (D : va_G) (cI : ClassId) (sm rg wa sz : Nat) (v_wd : Nat → Int32) (a1 : Int32) (a2 : Int32)  : Met l yX2_testBit wwX2_testBit rmX2_testBit (va_Pc [.ref sm, .int a1, .int a2] (kp D (kX2 cI sm rg wa v_wd) [(cI, .int)] sz)) (va_Qv (fun (u9 : (Nat → Int32)) => u9 = fX2_testBit v_wd a1 a2) (fun u9 t => kq D (kX2 cI sm rg wa u9) [(cI, .int)] (va_A (kX2 cI sm rg wa v_wd) sz) t) (va_A (kX2 cI sm rg wa v_wd) sz)) 0 0 (va_A (kX2 cI sm rg wa v_wd) sz) := by
  refine Met.ofW (cc := cX2_testBit) (maxL := 3) (ret := none) (by decide) rfl ?_
  intro p e s m args below meth c s₁ B hml hv
  obtain ⟨rfl, hsz, hP, hK, hD0, hT⟩ := hv
  have hx := B.exec
  have hb := B.bytes
  have hr := B.returns
  have hts := atoms_spec (ws := wwX2_testBit) B.pre
  have hws : ∀ w ∈ wsL_law, w.before _ s = true := fun w h => hts w (List.mem_cons_of_mem _ h)
  have hown : s.vm.findClass RX2 = some m.cls := findClass_of_methodNamed B.named
  have hlocks := B.notSynchronized
  subst hsz
  have hD := hD0.self (sz := s.heap.size)
  generalize hAe : va_A (kX2 cI sm rg wa v_wd) s.heap.size = A at hD hT ⊢
  have hA : ∀ q : Nat, s.heap.size ≤ q → A q := fun q h => by rw [← hAe]; exact Or.inr h
  have hS : va_S A s.heap s.heap [] := va_S.rf
  have hl := lv_entry ([.ref sm, .int a1, .int a2]) (n := 3) (Nat.le_of_ble_eq_true rfl)
  rw [lg_entry_eq]
  generalize (lg_sl ([.ref sm, .int a1, .int a2]) ++ List.replicate (3 - (lg_sl ([.ref sm, .int a1, .int a2])).length) Slot.unset).toArray = ls at hl ⊢
  have hl : lv_has ls 3 [(0, .ref sm), (1, .int a1), (2, .int a2)] := hl
  generalize hQ : MQ _ _ _ _ _ _ _ = Q
  obtain ⟨H, hHe⟩ : ∃ H : Heap, H = s.heap := ⟨_, rfl⟩
  obtain ⟨locs, hle⟩ : ∃ L : List Loc, L = [] := ⟨_, rfl⟩
  have hP : va_P D vwCl (kX2 cI sm rg wa v_wd) H := by rw [hHe]; exact hP
  have hS : va_S A s.heap H locs := by rw [hHe, hle]; exact hS
  refine kw_start hHe.symm hle.symm ?_
  have hf : fX2_testBit v_wd a1 a2 = fX2_testBit v_wd a1 a2 := rfl
  refine lv_aload_n hx hb dX2_testBit_0 rfl (lv_at hl 0 rfl) ?_
  refine va_get (D := D) (ci := 2) (v := .ref rg) (C := RX2) (T := TX2) (N := 1) hx hb hws inlX2 hown hK hP 0 rfl rfl 0 (by decide) (hws _ mw_33) (fun _ h9 => h9) rfl dX2_testBit_1 ?_
  refine lv_iload_n hx hb dX2_testBit_4 rfl (lv_at hl 2 rfl) ?_
  refine lv_iload_n hx hb dX2_testBit_5 rfl (lv_at hl 1 rfl) ?_
  refine lv_ishr hx hb dX2_testBit_6 ?_
  refine lv_iconst (v := 1) hx hb dX2_testBit_7 (by decide) ?_
  refine lv_iand hx hb dX2_testBit_8 ?_
  obtain ⟨TJ3, hTJ3⟩ : ∃ T9 : Bool, T9 = (kIf (kEq ((a2 >>> (a1 &&& (31 : Int32))) &&& (1 : Int32)) (0 : Int32)) true false) := ⟨_, rfl⟩
  have J3 : ∀ (z2 : Bool), z2 = TJ3 → ∀ (H : Heap) (locs : List Loc) (ls : Array Slot), lv_has ls 3 [(0, .ref sm), (1, .int a1), (2, .int a2)] → va_P D vwCl (kX2 cI sm rg wa v_wd) H → va_D A (kX2 cI sm rg wa v_wd) → va_S A s.heap H locs → W p l e (headSpec wwX2_testBit rmX2_testBit).room s m ([.ref sm, .int a1, .int a2] : List Value).toArray below meth c H locs 0 0 Q (F0 m 17 ls [.int (bI z2), .ref rg]) := by
    intro z2 eJ3 H locs ls hl hP hD hS
    have hf := hf.trans (kE1 (eJ3.trans hTJ3))
    refine lv_iconst (v := 0) hx hb dX2_testBit_17 (by decide) ?_
    refine lv_iconst (v := 1) hx hb dX2_testBit_18 (by decide) ?_
    refine lv_aload_n hx hb dX2_testBit_19 rfl (lv_at hl 0 rfl) ?_
    refine va_get (D := D) (ci := 2) (v := .ref rg) (C := RX2) (T := TX2) (N := 1) hx hb hws inlX2 hown hK hP 0 rfl rfl 0 (by decide) (hws _ mw_33) (fun _ h9 => h9) rfl dX2_testBit_20 ?_
    refine lv_bipush (v := 16) hx hb dX2_testBit_23 (by decide) ?_
    refine kc_Vi (wr := [(sm, .inr (2, [.ref rg]))]) (As := [.int (16 : Int32)]) (rest := [.int (1 : Int32), .int (0 : Int32), .int (bI z2), .ref rg]) (fun _ => (kX2 cI sm rg wa v_wd)) ⟨hx, hb, hml, hown, hws⟩ hK hP hD hS hA hT (c_X1_flag l D cI rg wa H.size v_wd (16 : Int32)) (cwV 1 hws (gw_V mw_203 mw_204 mw_205 mw_32 mw_206) rfl rfl rfl hdX1_flag ⟨Nat.le_of_ble_eq_true rfl, Nat.le_of_ble_eq_true rfl⟩) [1, 2] [0] [0] [0, 1, 2] rfl rfl rfl rfl (by decide) rfl (fun _ => rfl) rfl 1 rfl rfl rfl rfl hl.1 rfl (Nat.le_of_ble_eq_true rfl) dX2_testBit_25 ⟨Nat.zero_le _, Nat.zero_le _⟩ (fun r5 _ H locs hw4 hP hD hS => ?_)
    obtain ⟨z6, rfl, hw4⟩ := hw4
    have hP : va_P D vwCl (kX2 cI sm rg wa v_wd) H := hP
    have hD : va_D A (kX2 cI sm rg wa v_wd) := hD
    have hf := hf.trans (kE1 hw4)
    refine kc_Vv (wr := [(sm, .inr (2, [.ref rg]))]) (As := [.int (bI z2), .int (bI false), .int (bI true), .int (bI z6)]) (rest := []) (fun u9 => (kX2 cI sm rg wa u9)) ⟨hx, hb, hml, hown, hws⟩ hK hP hD hS hA hT (c_X1_setFlags l D cI rg wa H.size v_wd z2 false true z6) (cwV 4 hws (gw_V mw_210 mw_211 mw_212 mw_32 mw_213) rfl rfl rfl hdX1_setFlags ⟨Nat.le_of_ble_eq_true rfl, Nat.le_of_ble_eq_true rfl⟩) [1, 2] [0] [0] [0, 1, 2] rfl rfl rfl rfl (by decide) rfl (fun _ => rfl) rfl 1 rfl rfl rfl rfl hl.1 rfl (Nat.le_of_ble_eq_true rfl) dX2_testBit_28 ⟨Nat.zero_le _, Nat.zero_le _⟩ (fun b7 H locs hw8 hP hD hS => ?_)
    have hP : va_P D vwCl (kX2 cI sm rg wa b7) H := hP
    have hD : va_D A (kX2 cI sm rg wa b7) := hD
    have hf := hf.trans (kE1 hw8)
    rw [← hQ]
    exact W.vret hx hb hr (fun t ht hW => ⟨⟨b7, rfl, hf.symm, by rw [ht]; exact hP, va_K.moved hW.alike hK, hD⟩, hS.F ht⟩) hS.2.2 dX2_testBit_31
  have hf := hTJ3
  refine lv_if_ne (tgt := 16) hx hb dX2_testBit_9 (by decide) (fun c1 => ?_) (fun c1 => ?_)
  · have hf := hf.trans (kf_eq c1)
    refine lv_iconst (v := 0) hx hb dX2_testBit_16 (by decide) ?_
    exact J3 false hf.symm H locs ls (lv_sub hl [0, 1, 2] rfl) hP hD hS
  · have hf := hf.trans (kt_eq c1)
    refine lv_iconst (v := 1) hx hb dX2_testBit_12 (by decide) ?_
    refine lv_goto (tgt := 17) hx hb dX2_testBit_13 (by decide) ?_
    exact J3 true hf.symm H locs ls (lv_sub hl [0, 1, 2] rfl) hP hD hS
def fX2_addToHl (v_wd : Nat → Int32) (a1 : Int32) : (Nat → Int32) := (kU1 (fX1_word v_wd (3 : Int32)) (fun (r2 : Int32) => (kU2 (fX1_setWord v_wd (3 : Int32) (r2 + a1)) (fun (z6 : Bool) (b3 : Nat → Int32) => (kU1 (((kIf (kLe ((r2 &&& (4095 : Int32)) + (a1 &&& (4095 : Int32))) (4095 : Int32)) false true) : Bool)) (fun (z8 : Bool) => (kU1 (fX1_flag b3 (128 : Int32)) (fun (z12 : Bool) => (kU1 (((kIf (kLe (r2 + a1) (65535 : Int32)) false true) : Bool)) (fun (z14 : Bool) => (kU1 (fX1_setFlags b3 z12 false z8 z14) (fun (b16 : Nat → Int32) => b16))))))))))))
def rmX2_addToHl : Room := { frames := 1, cells := 0, slots := 0, locals := 25 }
def wwX2_addToHl : List Cond := Cond.code yX2_addToHl cX2_addToHl 4 none :: wsL_law
theorem hdX2_addToHl : yX2_addToHl.cls = RX2 ∧ yX2_addToHl.cls ≠ "java/lang/invoke/MethodHandle" ∧ yX2_addToHl.cls ≠ "java/lang/invoke/VarHandle" ∧ (parseMethodDescriptor yX2_addToHl.desc).map (fun d => d.parameters.length) = some 1 := by decide +kernel
set_option maxHeartbeats 4000000 in
set_option maxRecDepth 100000 in
theorem c_X2_addToHl (l : Launch) (D : va_G) (cI : ClassId) (sm rg wa sz : Nat) (v_wd : Nat → Int32) (a1 : Int32)  : Met l yX2_addToHl wwX2_addToHl rmX2_addToHl (va_Pc [.ref sm, .int a1] (kp D (kX2 cI sm rg wa v_wd) [(cI, .int)] sz)) (va_Qv (fun (u9 : (Nat → Int32)) => u9 = fX2_addToHl v_wd a1) (fun u9 t => kq D (kX2 cI sm rg wa u9) [(cI, .int)] (va_A (kX2 cI sm rg wa v_wd) sz) t) (va_A (kX2 cI sm rg wa v_wd) sz)) 0 0 (va_A (kX2 cI sm rg wa v_wd) sz) := by
  refine Met.ofW (cc := cX2_addToHl) (maxL := 4) (ret := none) (by decide) rfl ?_
  intro p e s m args below meth c s₁ B hml hv
  obtain ⟨rfl, hsz, hP, hK, hD0, hT⟩ := hv
  have hx := B.exec
  have hb := B.bytes
  have hr := B.returns
  have hts := atoms_spec (ws := wwX2_addToHl) B.pre
  have hws : ∀ w ∈ wsL_law, w.before _ s = true := fun w h => hts w (List.mem_cons_of_mem _ h)
  have hown : s.vm.findClass RX2 = some m.cls := findClass_of_methodNamed B.named
  have hlocks := B.notSynchronized
  subst hsz
  have hD := hD0.self (sz := s.heap.size)
  generalize hAe : va_A (kX2 cI sm rg wa v_wd) s.heap.size = A at hD hT ⊢
  have hA : ∀ q : Nat, s.heap.size ≤ q → A q := fun q h => by rw [← hAe]; exact Or.inr h
  have hS : va_S A s.heap s.heap [] := va_S.rf
  have hl := lv_entry ([.ref sm, .int a1]) (n := 4) (Nat.le_of_ble_eq_true rfl)
  rw [lg_entry_eq]
  generalize (lg_sl ([.ref sm, .int a1]) ++ List.replicate (4 - (lg_sl ([.ref sm, .int a1])).length) Slot.unset).toArray = ls at hl ⊢
  have hl : lv_has ls 4 [(0, .ref sm), (1, .int a1)] := hl
  generalize hQ : MQ _ _ _ _ _ _ _ = Q
  obtain ⟨H, hHe⟩ : ∃ H : Heap, H = s.heap := ⟨_, rfl⟩
  obtain ⟨locs, hle⟩ : ∃ L : List Loc, L = [] := ⟨_, rfl⟩
  have hP : va_P D vwCl (kX2 cI sm rg wa v_wd) H := by rw [hHe]; exact hP
  have hS : va_S A s.heap H locs := by rw [hHe, hle]; exact hS
  refine kw_start hHe.symm hle.symm ?_
  have hf : fX2_addToHl v_wd a1 = fX2_addToHl v_wd a1 := rfl
  refine lv_aload_n hx hb dX2_addToHl_0 rfl (lv_at hl 0 rfl) ?_
  refine va_get (D := D) (ci := 2) (v := .ref rg) (C := RX2) (T := TX2) (N := 1) hx hb hws inlX2 hown hK hP 0 rfl rfl 0 (by decide) (hws _ mw_33) (fun _ h9 => h9) rfl dX2_addToHl_1 ?_
  refine lv_iconst (v := 3) hx hb dX2_addToHl_4 (by decide) ?_
  refine kc_Vi (wr := [(sm, .inr (2, [.ref rg]))]) (As := [.int (3 : Int32)]) (rest := []) (fun _ => (kX2 cI sm rg wa v_wd)) ⟨hx, hb, hml, hown, hws⟩ hK hP hD hS hA hT (c_X1_word l D cI rg wa H.size v_wd (3 : Int32)) (cwV 1 hws (gw_V mw_257 mw_124 mw_125 mw_32 mw_126) rfl rfl rfl hdX1_word ⟨Nat.le_of_ble_eq_true rfl, Nat.le_of_ble_eq_true rfl⟩) [1, 2] [0] [0] [0, 1, 2] rfl rfl rfl rfl (by decide) rfl (fun _ => rfl) rfl 1 rfl rfl rfl rfl hl.1 rfl (Nat.le_of_ble_eq_true rfl) dX2_addToHl_5 ⟨Nat.zero_le _, Nat.zero_le _⟩ (fun r2 _ H locs hw1 hP hD hS => ?_)
  have hP : va_P D vwCl (kX2 cI sm rg wa v_wd) H := hP
  have hD : va_D A (kX2 cI sm rg wa v_wd) := hD
  have hf := hf.trans (kE1 hw1)
  refine lv_istore_n (lv' := [(2, .int r2), (0, .ref sm), (1, .int a1)]) hx hb dX2_addToHl_8 rfl hl (by decide) rfl (fun ls hl => ?_)
  refine lv_aload_n hx hb dX2_addToHl_9 rfl (lv_at hl 1 rfl) ?_
  refine va_get (D := D) (ci := 2) (v := .ref rg) (C := RX2) (T := TX2) (N := 1) hx hb hws inlX2 hown hK hP 0 rfl rfl 0 (by decide) (hws _ mw_33) (fun _ h9 => h9) rfl dX2_addToHl_10 ?_
  refine lv_iconst (v := 3) hx hb dX2_addToHl_13 (by decide) ?_
  refine lv_iload_n hx hb dX2_addToHl_14 rfl (lv_at hl 0 rfl) ?_
  refine lv_iload_n hx hb dX2_addToHl_15 rfl (lv_at hl 2 rfl) ?_
  refine lv_iadd hx hb dX2_addToHl_16 ?_
  refine kc_Vi (wr := [(sm, .inr (2, [.ref rg]))]) (As := [.int (3 : Int32), .int (r2 + a1)]) (rest := []) (fun u9 => (kX2 cI sm rg wa u9)) ⟨hx, hb, hml, hown, hws⟩ hK hP hD hS hA hT (c_X1_setWord l D cI rg wa H.size v_wd (3 : Int32) (r2 + a1)) (cwV 2 hws (gw_V mw_258 mw_138 mw_139 mw_32 mw_140) rfl rfl rfl hdX1_setWord ⟨Nat.le_of_ble_eq_true rfl, Nat.le_of_ble_eq_true rfl⟩) [1, 2] [0] [0] [0, 1, 2] rfl rfl rfl rfl (by decide) rfl (fun _ => rfl) rfl 1 rfl rfl rfl rfl hl.1 rfl (Nat.le_of_ble_eq_true rfl) dX2_addToHl_17 ⟨Nat.zero_le _, Nat.zero_le _⟩ (fun r5 b3 H locs hw4 hP hD hS => ?_)
  obtain ⟨z6, rfl, hw4⟩ := hw4
  have hP : va_P D vwCl (kX2 cI sm rg wa b3) H := hP
  have hD : va_D A (kX2 cI sm rg wa b3) := hD
  have hf := hf.trans (kE2 hw4)
  refine lv_pop hx hb dX2_addToHl_20 rfl ?_
  refine lv_iload_n hx hb dX2_addToHl_21 rfl (lv_at hl 0 rfl) ?_
  refine lv_sipush (v := 4095) hx hb dX2_addToHl_22 (by decide) ?_
  refine lv_iand hx hb dX2_addToHl_25 ?_
  refine lv_iload_n hx hb dX2_addToHl_26 rfl (lv_at hl 2 rfl) ?_
  refine lv_sipush (v := 4095) hx hb dX2_addToHl_27 (by decide) ?_
  refine lv_iand hx hb dX2_addToHl_30 ?_
  refine lv_iadd hx hb dX2_addToHl_31 ?_
  refine lv_sipush (v := 4095) hx hb dX2_addToHl_32 (by decide) ?_
  obtain ⟨TJ9, hTJ9⟩ : ∃ T9 : Bool, T9 = (kIf (kLe ((r2 &&& (4095 : Int32)) + (a1 &&& (4095 : Int32))) (4095 : Int32)) false true) := ⟨_, rfl⟩
  have J9 : ∀ (z8 : Bool), z8 = TJ9 → ∀ (H : Heap) (locs : List Loc) (ls : Array Slot), lv_has ls 4 [(2, .int r2), (0, .ref sm), (1, .int a1)] → va_P D vwCl (kX2 cI sm rg wa b3) H → va_D A (kX2 cI sm rg wa b3) → va_S A s.heap H locs → W p l e (headSpec wwX2_addToHl rmX2_addToHl).room s m ([.ref sm, .int a1] : List Value).toArray below meth c H locs 0 0 Q (F0 m 43 ls [.int (bI z8)]) := by
    intro z8 eJ9 H locs ls hl hP hD hS
    have hf := hf.trans (kE1 (eJ9.trans hTJ9))
    refine lv_istore_n (lv' := [(3, .int (bI z8)), (2, .int r2), (0, .ref sm), (1, .int a1)]) hx hb dX2_addToHl_43 rfl hl (by decide) rfl (fun ls hl => ?_)
    refine lv_aload_n hx hb dX2_addToHl_44 rfl (lv_at hl 2 rfl) ?_
    refine va_get (D := D) (ci := 2) (v := .ref rg) (C := RX2) (T := TX2) (N := 1) hx hb hws inlX2 hown hK hP 0 rfl rfl 0 (by decide) (hws _ mw_33) (fun _ h9 => h9) rfl dX2_addToHl_45 ?_
    refine lv_aload_n hx hb dX2_addToHl_48 rfl (lv_at hl 2 rfl) ?_
    refine va_get (D := D) (ci := 2) (v := .ref rg) (C := RX2) (T := TX2) (N := 1) hx hb hws inlX2 hown hK hP 0 rfl rfl 0 (by decide) (hws _ mw_33) (fun _ h9 => h9) rfl dX2_addToHl_49 ?_
    refine lv_sipush (v := 128) hx hb dX2_addToHl_52 (by decide) ?_
    refine kc_Vi (wr := [(sm, .inr (2, [.ref rg]))]) (As := [.int (128 : Int32)]) (rest := [.ref rg]) (fun _ => (kX2 cI sm rg wa b3)) ⟨hx, hb, hml, hown, hws⟩ hK hP hD hS hA hT (c_X1_flag l D cI rg wa H.size b3 (128 : Int32)) (cwV 1 hws (gw_V mw_203 mw_204 mw_205 mw_32 mw_206) rfl rfl rfl hdX1_flag ⟨Nat.le_of_ble_eq_true rfl, Nat.le_of_ble_eq_true rfl⟩) [1, 2] [0] [0] [0, 1, 2] rfl rfl rfl rfl (by decide) rfl (fun _ => rfl) rfl 1 rfl rfl rfl rfl hl.1 rfl (Nat.le_of_ble_eq_true rfl) dX2_addToHl_55 ⟨Nat.zero_le _, Nat.zero_le _⟩ (fun r11 _ H locs hw10 hP hD hS => ?_)
    obtain ⟨z12, rfl, hw10⟩ := hw10
    have hP : va_P D vwCl (kX2 cI sm rg wa b3) H := hP
    have hD : va_D A (kX2 cI sm rg wa b3) := hD
    have hf := hf.trans (kE1 hw10)
    refine lv_iconst (v := 0) hx hb dX2_addToHl_58 (by decide) ?_
    refine lv_iload_n hx hb dX2_addToHl_59 rfl (lv_at hl 0 rfl) ?_
    refine lv_iload_n hx hb dX2_addToHl_60 rfl (lv_at hl 1 rfl) ?_
    refine lv_iload_n hx hb dX2_addToHl_61 rfl (lv_at hl 3 rfl) ?_
    refine lv_iadd hx hb dX2_addToHl_62 ?_
    refine lv_ldc (v := 65535) hx hb hown (hws _ mw_256) dX2_addToHl_63 ?_
    obtain ⟨TJ15, hTJ15⟩ : ∃ T9 : Bool, T9 = (kIf (kLe (r2 + a1) (65535 : Int32)) false true) := ⟨_, rfl⟩
    have J15 : ∀ (z14 : Bool), z14 = TJ15 → ∀ (H : Heap) (locs : List Loc) (ls : Array Slot), lv_has ls 4 [(3, .int (bI z8)), (2, .int r2), (0, .ref sm), (1, .int a1)] → va_P D vwCl (kX2 cI sm rg wa b3) H → va_D A (kX2 cI sm rg wa b3) → va_S A s.heap H locs → W p l e (headSpec wwX2_addToHl rmX2_addToHl).room s m ([.ref sm, .int a1] : List Value).toArray below meth c H locs 0 0 Q (F0 m 73 ls [.int (bI z14), .int (bI z8), .int (0 : Int32), .int (bI z12), .ref rg]) := by
      intro z14 eJ15 H locs ls hl hP hD hS
      have hf := hf.trans (kE1 (eJ15.trans hTJ15))
      refine kc_Vv (wr := [(sm, .inr (2, [.ref rg]))]) (As := [.int (bI z12), .int (bI false), .int (bI z8), .int (bI z14)]) (rest := []) (fun u9 => (kX2 cI sm rg wa u9)) ⟨hx, hb, hml, hown, hws⟩ hK hP hD hS hA hT (c_X1_setFlags l D cI rg wa H.size b3 z12 false z8 z14) (cwV 4 hws (gw_V mw_210 mw_211 mw_212 mw_32 mw_213) rfl rfl rfl hdX1_setFlags ⟨Nat.le_of_ble_eq_true rfl, Nat.le_of_ble_eq_true rfl⟩) [1, 2] [0] [0] [0, 1, 2] rfl rfl rfl rfl (by decide) rfl (fun _ => rfl) rfl 1 rfl rfl rfl rfl hl.1 rfl (Nat.le_of_ble_eq_true rfl) dX2_addToHl_73 ⟨Nat.zero_le _, Nat.zero_le _⟩ (fun b16 H locs hw17 hP hD hS => ?_)
      have hP : va_P D vwCl (kX2 cI sm rg wa b16) H := hP
      have hD : va_D A (kX2 cI sm rg wa b16) := hD
      have hf := hf.trans (kE1 hw17)
      rw [← hQ]
      exact W.vret hx hb hr (fun t ht hW => ⟨⟨b16, rfl, hf.symm, by rw [ht]; exact hP, va_K.moved hW.alike hK, hD⟩, hS.F ht⟩) hS.2.2 dX2_addToHl_76
    have hf := hTJ15
    refine lv_icmp_le (tgt := 72) hx hb dX2_addToHl_65 (by decide) (fun c13 => ?_) (fun c13 => ?_)
    · have hf := hf.trans (kt_le c13)
      refine lv_iconst (v := 0) hx hb dX2_addToHl_72 (by decide) ?_
      exact J15 false hf.symm H locs ls (lv_sub hl [0, 1, 2, 3] rfl) hP hD hS
    · have hf := hf.trans (kf_le c13)
      refine lv_iconst (v := 1) hx hb dX2_addToHl_68 (by decide) ?_
      refine lv_goto (tgt := 73) hx hb dX2_addToHl_69 (by decide) ?_
      exact J15 true hf.symm H locs ls (lv_sub hl [0, 1, 2, 3] rfl) hP hD hS
  have hf := hTJ9
  refine lv_icmp_le (tgt := 42) hx hb dX2_addToHl_35 (by decide) (fun c7 => ?_) (fun c7 => ?_)
  · have hf := hf.trans (kt_le c7)
    refine lv_iconst (v := 0) hx hb dX2_addToHl_42 (by decide) ?_
    exact J9 false hf.symm H locs ls (lv_sub hl [0, 1, 2] rfl) hP hD hS
  · have hf := hf.trans (kf_le c7)
    refine lv_iconst (v := 1) hx hb dX2_addToHl_38 (by decide) ?_
    refine lv_goto (tgt := 43) hx hb dX2_addToHl_39 (by decide) ?_
    exact J9 true hf.symm H locs ls (lv_sub hl [0, 1, 2] rfl) hP hD hS
def fX2_increment (v_wd : Nat → Int32) (a1 : Int32) : Int32 × (Nat → Int32) := (kU1 (((a1 + (1 : Int32)) &&& (255 : Int32))) (fun (x1 : Int32) => (kU1 (((kIf (kEq x1 (0 : Int32)) true false) : Bool)) (fun (z3 : Bool) => (kU1 (((kIf (kEq (x1 &&& (15 : Int32)) (0 : Int32)) true false) : Bool)) (fun (z6 : Bool) => (kU1 (fX1_flag v_wd (16 : Int32)) (fun (z10 : Bool) => (kU1 (fX1_setFlags v_wd z3 false z6 z10) (fun (b11 : Nat → Int32) => (x1, b11)))))))))))
def rmX2_increment : Room := { frames := 1, cells := 0, slots := 0, locals := 25 }
def wwX2_increment : List Cond := Cond.code yX2_increment cX2_increment 3 (some .int) :: wsL_law
theorem hdX2_increment : yX2_increment.cls = RX2 ∧ yX2_increment.cls ≠ "java/lang/invoke/MethodHandle" ∧ yX2_increment.cls ≠ "java/lang/invoke/VarHandle" ∧ (parseMethodDescriptor yX2_increment.desc).map (fun d => d.parameters.length) = some 1 := by decide +kernel
set_option maxHeartbeats 4000000 in
set_option maxRecDepth 100000 in
theorem c_X2_increment (l : Launch) (D : va_G) (cI : ClassId) (sm rg wa sz : Nat) (v_wd : Nat → Int32) (a1 : Int32)  : Met l yX2_increment wwX2_increment rmX2_increment (va_Pc [.ref sm, .int a1] (kp D (kX2 cI sm rg wa v_wd) [(cI, .int)] sz)) (va_Qi (fun (r : Int32) (u9 : (Nat → Int32)) => (r, u9) = fX2_increment v_wd a1) (fun u9 t => kq D (kX2 cI sm rg wa u9) [(cI, .int)] (va_A (kX2 cI sm rg wa v_wd) sz) t) (va_A (kX2 cI sm rg wa v_wd) sz)) 0 0 (va_A (kX2 cI sm rg wa v_wd) sz) := by
  refine Met.ofW (cc := cX2_increment) (maxL := 3) (ret := (some .int)) (by decide) rfl ?_
  intro p e s m args below meth c s₁ B hml hv
  obtain ⟨rfl, hsz, hP, hK, hD0, hT⟩ := hv
  have hx := B.exec
  have hb := B.bytes
  have hr := B.returns
  have hts := atoms_spec (ws := wwX2_increment) B.pre
  have hws : ∀ w ∈ wsL_law, w.before _ s = true := fun w h => hts w (List.mem_cons_of_mem _ h)
  have hown : s.vm.findClass RX2 = some m.cls := findClass_of_methodNamed B.named
  have hlocks := B.notSynchronized
  subst hsz
  have hD := hD0.self (sz := s.heap.size)
  generalize hAe : va_A (kX2 cI sm rg wa v_wd) s.heap.size = A at hD hT ⊢
  have hA : ∀ q : Nat, s.heap.size ≤ q → A q := fun q h => by rw [← hAe]; exact Or.inr h
  have hS : va_S A s.heap s.heap [] := va_S.rf
  have hl := lv_entry ([.ref sm, .int a1]) (n := 3) (Nat.le_of_ble_eq_true rfl)
  rw [lg_entry_eq]
  generalize (lg_sl ([.ref sm, .int a1]) ++ List.replicate (3 - (lg_sl ([.ref sm, .int a1])).length) Slot.unset).toArray = ls at hl ⊢
  have hl : lv_has ls 3 [(0, .ref sm), (1, .int a1)] := hl
  generalize hQ : MQ _ _ _ _ _ _ _ = Q
  obtain ⟨H, hHe⟩ : ∃ H : Heap, H = s.heap := ⟨_, rfl⟩
  obtain ⟨locs, hle⟩ : ∃ L : List Loc, L = [] := ⟨_, rfl⟩
  have hP : va_P D vwCl (kX2 cI sm rg wa v_wd) H := by rw [hHe]; exact hP
  have hS : va_S A s.heap H locs := by rw [hHe, hle]; exact hS
  refine kw_start hHe.symm hle.symm ?_
  have hf : fX2_increment v_wd a1 = fX2_increment v_wd a1 := rfl
  refine lv_iload_n hx hb dX2_increment_0 rfl (lv_at hl 1 rfl) ?_
  refine lv_iconst (v := 1) hx hb dX2_increment_1 (by decide) ?_
  refine lv_iadd hx hb dX2_increment_2 ?_
  refine lv_sipush (v := 255) hx hb dX2_increment_3 (by decide) ?_
  refine lv_iand hx hb dX2_increment_6 ?_
  refine lv_topi (fun x1 ex1 => ?_)
  have hf := hf.trans (kE1 ex1)
  refine lv_istore_n (lv' := [(2, .int x1), (0, .ref sm), (1, .int a1)]) hx hb dX2_increment_7 rfl hl (by decide) rfl (fun ls hl => ?_)
  refine lv_aload_n hx hb dX2_increment_8 rfl (lv_at hl 1 rfl) ?_
  refine va_get (D := D) (ci := 2) (v := .ref rg) (C := RX2) (T := TX2) (N := 1) hx hb hws inlX2 hown hK hP 0 rfl rfl 0 (by decide) (hws _ mw_33) (fun _ h9 => h9) rfl dX2_increment_9 ?_
  refine lv_iload_n hx hb dX2_increment_12 rfl (lv_at hl 0 rfl) ?_
  obtain ⟨TJ4, hTJ4⟩ : ∃ T9 : Bool, T9 = (kIf (kEq x1 (0 : Int32)) true false) := ⟨_, rfl⟩
  have J4 : ∀ (z3 : Bool), z3 = TJ4 → ∀ (H : Heap) (locs : List Loc) (ls : Array Slot), lv_has ls 3 [(2, .int x1), (0, .ref sm), (1, .int a1)] → va_P D vwCl (kX2 cI sm rg wa v_wd) H → va_D A (kX2 cI sm rg wa v_wd) → va_S A s.heap H locs → W p l e (headSpec wwX2_increment rmX2_increment).room s m ([.ref sm, .int a1] : List Value).toArray below meth c H locs 0 0 Q (F0 m 21 ls [.int (bI z3), .ref rg]) := by
    intro z3 eJ4 H locs ls hl hP hD hS
    have hf := hf.trans (kE1 (eJ4.trans hTJ4))
    refine lv_iconst (v := 0) hx hb dX2_increment_21 (by decide) ?_
    refine lv_iload_n hx hb dX2_increment_22 rfl (lv_at hl 0 rfl) ?_
    refine lv_bipush (v := 15) hx hb dX2_increment_23 (by decide) ?_
    refine lv_iand hx hb dX2_increment_25 ?_
    obtain ⟨TJ7, hTJ7⟩ : ∃ T9 : Bool, T9 = (kIf (kEq (x1 &&& (15 : Int32)) (0 : Int32)) true false) := ⟨_, rfl⟩
    have J7 : ∀ (z6 : Bool), z6 = TJ7 → ∀ (H : Heap) (locs : List Loc) (ls : Array Slot), lv_has ls 3 [(2, .int x1), (0, .ref sm), (1, .int a1)] → va_P D vwCl (kX2 cI sm rg wa v_wd) H → va_D A (kX2 cI sm rg wa v_wd) → va_S A s.heap H locs → W p l e (headSpec wwX2_increment rmX2_increment).room s m ([.ref sm, .int a1] : List Value).toArray below meth c H locs 0 0 Q (F0 m 34 ls [.int (bI z6), .int (0 : Int32), .int (bI z3), .ref rg]) := by
      intro z6 eJ7 H locs ls hl hP hD hS
      have hf := hf.trans (kE1 (eJ7.trans hTJ7))
      refine lv_aload_n hx hb dX2_increment_34 rfl (lv_at hl 1 rfl) ?_
      refine va_get (D := D) (ci := 2) (v := .ref rg) (C := RX2) (T := TX2) (N := 1) hx hb hws inlX2 hown hK hP 0 rfl rfl 0 (by decide) (hws _ mw_33) (fun _ h9 => h9) rfl dX2_increment_35 ?_
      refine lv_bipush (v := 16) hx hb dX2_increment_38 (by decide) ?_
      refine kc_Vi (wr := [(sm, .inr (2, [.ref rg]))]) (As := [.int (16 : Int32)]) (rest := [.int (bI z6), .int (0 : Int32), .int (bI z3), .ref rg]) (fun _ => (kX2 cI sm rg wa v_wd)) ⟨hx, hb, hml, hown, hws⟩ hK hP hD hS hA hT (c_X1_flag l D cI rg wa H.size v_wd (16 : Int32)) (cwV 1 hws (gw_V mw_203 mw_204 mw_205 mw_32 mw_206) rfl rfl rfl hdX1_flag ⟨Nat.le_of_ble_eq_true rfl, Nat.le_of_ble_eq_true rfl⟩) [1, 2] [0] [0] [0, 1, 2] rfl rfl rfl rfl (by decide) rfl (fun _ => rfl) rfl 1 rfl rfl rfl rfl hl.1 rfl (Nat.le_of_ble_eq_true rfl) dX2_increment_40 ⟨Nat.zero_le _, Nat.zero_le _⟩ (fun r9 _ H locs hw8 hP hD hS => ?_)
      obtain ⟨z10, rfl, hw8⟩ := hw8
      have hP : va_P D vwCl (kX2 cI sm rg wa v_wd) H := hP
      have hD : va_D A (kX2 cI sm rg wa v_wd) := hD
      have hf := hf.trans (kE1 hw8)
      refine kc_Vv (wr := [(sm, .inr (2, [.ref rg]))]) (As := [.int (bI z3), .int (bI false), .int (bI z6), .int (bI z10)]) (rest := []) (fun u9 => (kX2 cI sm rg wa u9)) ⟨hx, hb, hml, hown, hws⟩ hK hP hD hS hA hT (c_X1_setFlags l D cI rg wa H.size v_wd z3 false z6 z10) (cwV 4 hws (gw_V mw_210 mw_211 mw_212 mw_32 mw_213) rfl rfl rfl hdX1_setFlags ⟨Nat.le_of_ble_eq_true rfl, Nat.le_of_ble_eq_true rfl⟩) [1, 2] [0] [0] [0, 1, 2] rfl rfl rfl rfl (by decide) rfl (fun _ => rfl) rfl 1 rfl rfl rfl rfl hl.1 rfl (Nat.le_of_ble_eq_true rfl) dX2_increment_43 ⟨Nat.zero_le _, Nat.zero_le _⟩ (fun b11 H locs hw12 hP hD hS => ?_)
      have hP : va_P D vwCl (kX2 cI sm rg wa b11) H := hP
      have hD : va_D A (kX2 cI sm rg wa b11) := hD
      have hf := hf.trans (kE1 hw12)
      refine lv_iload_n hx hb dX2_increment_46 rfl (lv_at hl 0 rfl) ?_
      rw [← hQ]
      exact W.iret (v := x1) hx hb hr (fun t ht hW => ⟨⟨x1, b11, rfl, hf.symm, by rw [ht]; exact hP, va_K.moved hW.alike hK, hD⟩, hS.F ht⟩) hS.2.2 dX2_increment_47
    have hf := hTJ7
    refine lv_if_ne (tgt := 33) hx hb dX2_increment_26 (by decide) (fun c5 => ?_) (fun c5 => ?_)
    · have hf := hf.trans (kf_eq c5)
      refine lv_iconst (v := 0) hx hb dX2_increment_33 (by decide) ?_
      exact J7 false hf.symm H locs ls (lv_sub hl [0, 1, 2] rfl) hP hD hS
    · have hf := hf.trans (kt_eq c5)
      refine lv_iconst (v := 1) hx hb dX2_increment_29 (by decide) ?_
      refine lv_goto (tgt := 34) hx hb dX2_increment_30 (by decide) ?_
      exact J7 true hf.symm H locs ls (lv_sub hl [0, 1, 2] rfl) hP hD hS
  have hf := hTJ4
  refine lv_if_ne (tgt := 20) hx hb dX2_increment_13 (by decide) (fun c2 => ?_) (fun c2 => ?_)
  · have hf := hf.trans (kf_eq c2)
    refine lv_iconst (v := 0) hx hb dX2_increment_20 (by decide) ?_
    exact J4 false hf.symm H locs ls (lv_sub hl [0, 1, 2] rfl) hP hD hS
  · have hf := hf.trans (kt_eq c2)
    refine lv_iconst (v := 1) hx hb dX2_increment_16 (by decide) ?_
    refine lv_goto (tgt := 21) hx hb dX2_increment_17 (by decide) ?_
    exact J4 true hf.symm H locs ls (lv_sub hl [0, 1, 2] rfl) hP hD hS
def fX2_decrement (v_wd : Nat → Int32) (a1 : Int32) : Int32 × (Nat → Int32) := (kU1 (((a1 - (1 : Int32)) &&& (255 : Int32))) (fun (x1 : Int32) => (kU1 (((kIf (kEq x1 (0 : Int32)) true false) : Bool)) (fun (z3 : Bool) => (kU1 (((kIf (kEq (x1 &&& (15 : Int32)) (15 : Int32)) true false) : Bool)) (fun (z6 : Bool) => (kU1 (fX1_flag v_wd (16 : Int32)) (fun (z10 : Bool) => (kU1 (fX1_setFlags v_wd z3 true z6 z10) (fun (b11 : Nat → Int32) => (x1, b11)))))))))))
def rmX2_decrement : Room := { frames := 1, cells := 0, slots := 0, locals := 25 }
def wwX2_decrement : List Cond := Cond.code yX2_decrement cX2_decrement 3 (some .int) :: wsL_law
theorem hdX2_decrement : yX2_decrement.cls = RX2 ∧ yX2_decrement.cls ≠ "java/lang/invoke/MethodHandle" ∧ yX2_decrement.cls ≠ "java/lang/invoke/VarHandle" ∧ (parseMethodDescriptor yX2_decrement.desc).map (fun d => d.parameters.length) = some 1 := by decide +kernel
set_option maxHeartbeats 4000000 in
set_option maxRecDepth 100000 in
theorem c_X2_decrement (l : Launch) (D : va_G) (cI : ClassId) (sm rg wa sz : Nat) (v_wd : Nat → Int32) (a1 : Int32)  : Met l yX2_decrement wwX2_decrement rmX2_decrement (va_Pc [.ref sm, .int a1] (kp D (kX2 cI sm rg wa v_wd) [(cI, .int)] sz)) (va_Qi (fun (r : Int32) (u9 : (Nat → Int32)) => (r, u9) = fX2_decrement v_wd a1) (fun u9 t => kq D (kX2 cI sm rg wa u9) [(cI, .int)] (va_A (kX2 cI sm rg wa v_wd) sz) t) (va_A (kX2 cI sm rg wa v_wd) sz)) 0 0 (va_A (kX2 cI sm rg wa v_wd) sz) := by
  refine Met.ofW (cc := cX2_decrement) (maxL := 3) (ret := (some .int)) (by decide) rfl ?_
  intro p e s m args below meth c s₁ B hml hv
  obtain ⟨rfl, hsz, hP, hK, hD0, hT⟩ := hv
  have hx := B.exec
  have hb := B.bytes
  have hr := B.returns
  have hts := atoms_spec (ws := wwX2_decrement) B.pre
  have hws : ∀ w ∈ wsL_law, w.before _ s = true := fun w h => hts w (List.mem_cons_of_mem _ h)
  have hown : s.vm.findClass RX2 = some m.cls := findClass_of_methodNamed B.named
  have hlocks := B.notSynchronized
  subst hsz
  have hD := hD0.self (sz := s.heap.size)
  generalize hAe : va_A (kX2 cI sm rg wa v_wd) s.heap.size = A at hD hT ⊢
  have hA : ∀ q : Nat, s.heap.size ≤ q → A q := fun q h => by rw [← hAe]; exact Or.inr h
  have hS : va_S A s.heap s.heap [] := va_S.rf
  have hl := lv_entry ([.ref sm, .int a1]) (n := 3) (Nat.le_of_ble_eq_true rfl)
  rw [lg_entry_eq]
  generalize (lg_sl ([.ref sm, .int a1]) ++ List.replicate (3 - (lg_sl ([.ref sm, .int a1])).length) Slot.unset).toArray = ls at hl ⊢
  have hl : lv_has ls 3 [(0, .ref sm), (1, .int a1)] := hl
  generalize hQ : MQ _ _ _ _ _ _ _ = Q
  obtain ⟨H, hHe⟩ : ∃ H : Heap, H = s.heap := ⟨_, rfl⟩
  obtain ⟨locs, hle⟩ : ∃ L : List Loc, L = [] := ⟨_, rfl⟩
  have hP : va_P D vwCl (kX2 cI sm rg wa v_wd) H := by rw [hHe]; exact hP
  have hS : va_S A s.heap H locs := by rw [hHe, hle]; exact hS
  refine kw_start hHe.symm hle.symm ?_
  have hf : fX2_decrement v_wd a1 = fX2_decrement v_wd a1 := rfl
  refine lv_iload_n hx hb dX2_decrement_0 rfl (lv_at hl 1 rfl) ?_
  refine lv_iconst (v := 1) hx hb dX2_decrement_1 (by decide) ?_
  refine lv_isub hx hb dX2_decrement_2 ?_
  refine lv_sipush (v := 255) hx hb dX2_decrement_3 (by decide) ?_
  refine lv_iand hx hb dX2_decrement_6 ?_
  refine lv_topi (fun x1 ex1 => ?_)
  have hf := hf.trans (kE1 ex1)
  refine lv_istore_n (lv' := [(2, .int x1), (0, .ref sm), (1, .int a1)]) hx hb dX2_decrement_7 rfl hl (by decide) rfl (fun ls hl => ?_)
  refine lv_aload_n hx hb dX2_decrement_8 rfl (lv_at hl 1 rfl) ?_
  refine va_get (D := D) (ci := 2) (v := .ref rg) (C := RX2) (T := TX2) (N := 1) hx hb hws inlX2 hown hK hP 0 rfl rfl 0 (by decide) (hws _ mw_33) (fun _ h9 => h9) rfl dX2_decrement_9 ?_
  refine lv_iload_n hx hb dX2_decrement_12 rfl (lv_at hl 0 rfl) ?_
  obtain ⟨TJ4, hTJ4⟩ : ∃ T9 : Bool, T9 = (kIf (kEq x1 (0 : Int32)) true false) := ⟨_, rfl⟩
  have J4 : ∀ (z3 : Bool), z3 = TJ4 → ∀ (H : Heap) (locs : List Loc) (ls : Array Slot), lv_has ls 3 [(2, .int x1), (0, .ref sm), (1, .int a1)] → va_P D vwCl (kX2 cI sm rg wa v_wd) H → va_D A (kX2 cI sm rg wa v_wd) → va_S A s.heap H locs → W p l e (headSpec wwX2_decrement rmX2_decrement).room s m ([.ref sm, .int a1] : List Value).toArray below meth c H locs 0 0 Q (F0 m 21 ls [.int (bI z3), .ref rg]) := by
    intro z3 eJ4 H locs ls hl hP hD hS
    have hf := hf.trans (kE1 (eJ4.trans hTJ4))
    refine lv_iconst (v := 1) hx hb dX2_decrement_21 (by decide) ?_
    refine lv_iload_n hx hb dX2_decrement_22 rfl (lv_at hl 0 rfl) ?_
    refine lv_bipush (v := 15) hx hb dX2_decrement_23 (by decide) ?_
    refine lv_iand hx hb dX2_decrement_25 ?_
    refine lv_bipush (v := 15) hx hb dX2_decrement_26 (by decide) ?_
    obtain ⟨TJ7, hTJ7⟩ : ∃ T9 : Bool, T9 = (kIf (kEq (x1 &&& (15 : Int32)) (15 : Int32)) true false) := ⟨_, rfl⟩
    have J7 : ∀ (z6 : Bool), z6 = TJ7 → ∀ (H : Heap) (locs : List Loc) (ls : Array Slot), lv_has ls 3 [(2, .int x1), (0, .ref sm), (1, .int a1)] → va_P D vwCl (kX2 cI sm rg wa v_wd) H → va_D A (kX2 cI sm rg wa v_wd) → va_S A s.heap H locs → W p l e (headSpec wwX2_decrement rmX2_decrement).room s m ([.ref sm, .int a1] : List Value).toArray below meth c H locs 0 0 Q (F0 m 36 ls [.int (bI z6), .int (1 : Int32), .int (bI z3), .ref rg]) := by
      intro z6 eJ7 H locs ls hl hP hD hS
      have hf := hf.trans (kE1 (eJ7.trans hTJ7))
      refine lv_aload_n hx hb dX2_decrement_36 rfl (lv_at hl 1 rfl) ?_
      refine va_get (D := D) (ci := 2) (v := .ref rg) (C := RX2) (T := TX2) (N := 1) hx hb hws inlX2 hown hK hP 0 rfl rfl 0 (by decide) (hws _ mw_33) (fun _ h9 => h9) rfl dX2_decrement_37 ?_
      refine lv_bipush (v := 16) hx hb dX2_decrement_40 (by decide) ?_
      refine kc_Vi (wr := [(sm, .inr (2, [.ref rg]))]) (As := [.int (16 : Int32)]) (rest := [.int (bI z6), .int (1 : Int32), .int (bI z3), .ref rg]) (fun _ => (kX2 cI sm rg wa v_wd)) ⟨hx, hb, hml, hown, hws⟩ hK hP hD hS hA hT (c_X1_flag l D cI rg wa H.size v_wd (16 : Int32)) (cwV 1 hws (gw_V mw_203 mw_204 mw_205 mw_32 mw_206) rfl rfl rfl hdX1_flag ⟨Nat.le_of_ble_eq_true rfl, Nat.le_of_ble_eq_true rfl⟩) [1, 2] [0] [0] [0, 1, 2] rfl rfl rfl rfl (by decide) rfl (fun _ => rfl) rfl 1 rfl rfl rfl rfl hl.1 rfl (Nat.le_of_ble_eq_true rfl) dX2_decrement_42 ⟨Nat.zero_le _, Nat.zero_le _⟩ (fun r9 _ H locs hw8 hP hD hS => ?_)
      obtain ⟨z10, rfl, hw8⟩ := hw8
      have hP : va_P D vwCl (kX2 cI sm rg wa v_wd) H := hP
      have hD : va_D A (kX2 cI sm rg wa v_wd) := hD
      have hf := hf.trans (kE1 hw8)
      refine kc_Vv (wr := [(sm, .inr (2, [.ref rg]))]) (As := [.int (bI z3), .int (bI true), .int (bI z6), .int (bI z10)]) (rest := []) (fun u9 => (kX2 cI sm rg wa u9)) ⟨hx, hb, hml, hown, hws⟩ hK hP hD hS hA hT (c_X1_setFlags l D cI rg wa H.size v_wd z3 true z6 z10) (cwV 4 hws (gw_V mw_210 mw_211 mw_212 mw_32 mw_213) rfl rfl rfl hdX1_setFlags ⟨Nat.le_of_ble_eq_true rfl, Nat.le_of_ble_eq_true rfl⟩) [1, 2] [0] [0] [0, 1, 2] rfl rfl rfl rfl (by decide) rfl (fun _ => rfl) rfl 1 rfl rfl rfl rfl hl.1 rfl (Nat.le_of_ble_eq_true rfl) dX2_decrement_45 ⟨Nat.zero_le _, Nat.zero_le _⟩ (fun b11 H locs hw12 hP hD hS => ?_)
      have hP : va_P D vwCl (kX2 cI sm rg wa b11) H := hP
      have hD : va_D A (kX2 cI sm rg wa b11) := hD
      have hf := hf.trans (kE1 hw12)
      refine lv_iload_n hx hb dX2_decrement_48 rfl (lv_at hl 0 rfl) ?_
      rw [← hQ]
      exact W.iret (v := x1) hx hb hr (fun t ht hW => ⟨⟨x1, b11, rfl, hf.symm, by rw [ht]; exact hP, va_K.moved hW.alike hK, hD⟩, hS.F ht⟩) hS.2.2 dX2_decrement_49
    have hf := hTJ7
    refine lv_icmp_ne (tgt := 35) hx hb dX2_decrement_28 (by decide) (fun c5 => ?_) (fun c5 => ?_)
    · have hf := hf.trans (kf_eq c5)
      refine lv_iconst (v := 0) hx hb dX2_decrement_35 (by decide) ?_
      exact J7 false hf.symm H locs ls (lv_sub hl [0, 1, 2] rfl) hP hD hS
    · have hf := hf.trans (kt_eq c5)
      refine lv_iconst (v := 1) hx hb dX2_decrement_31 (by decide) ?_
      refine lv_goto (tgt := 36) hx hb dX2_decrement_32 (by decide) ?_
      exact J7 true hf.symm H locs ls (lv_sub hl [0, 1, 2] rfl) hP hD hS
  have hf := hTJ4
  refine lv_if_ne (tgt := 20) hx hb dX2_decrement_13 (by decide) (fun c2 => ?_) (fun c2 => ?_)
  · have hf := hf.trans (kf_eq c2)
    refine lv_iconst (v := 0) hx hb dX2_decrement_20 (by decide) ?_
    exact J4 false hf.symm H locs ls (lv_sub hl [0, 1, 2] rfl) hP hD hS
  · have hf := hf.trans (kt_eq c2)
    refine lv_iconst (v := 1) hx hb dX2_decrement_16 (by decide) ?_
    refine lv_goto (tgt := 21) hx hb dX2_decrement_17 (by decide) ?_
    exact J4 true hf.symm H locs ls (lv_sub hl [0, 1, 2] rfl) hP hD hS
def fX2_adjustDecimal (v_wd : Nat → Int32)  : (Nat → Int32) := (kU1 (fX1_a v_wd) (fun (r2 : Int32) => (kU1 (fX1_flag v_wd (64 : Int32)) (fun (z5 : Bool) => (kU1 (fX1_flag v_wd (32 : Int32)) (fun (z8 : Bool) => (kU1 (((kIf (kEq (bI z8) (0 : Int32)) (kIf (kEq (bI z5) (0 : Int32)) (kIf (kLe (r2 &&& (15 : Int32)) (9 : Int32)) false true) false) true) : Bool)) (fun (z12 : Bool) => (kU1 (fX1_flag v_wd (16 : Int32)) (fun (z16 : Bool) => (kU1 (((kIf (kEq (bI z16) (0 : Int32)) (kIf (kEq (bI z5) (0 : Int32)) (kIf (kLe r2 (153 : Int32)) false true) false) true) : Bool)) (fun (z20 : Bool) => (kU1 (((kIf (kEq (bI z12) (0 : Int32)) (0 : Int32) (6 : Int32)) : Int32)) (fun (x23 : Int32) => (kU1 (((kIf (kEq (bI z20) (0 : Int32)) (0 : Int32) (96 : Int32)) : Int32)) (fun (x26 : Int32) => (kU1 ((x23 + x26)) (fun (x28 : Int32) => (kU1 (((kIf (kEq (bI z5) (0 : Int32)) (r2 + x28) (r2 - x28)) : Int32)) (fun (x30 : Int32) => (kU1 (fX1_setA v_wd x30) (fun (b32 : Nat → Int32) => (kU1 (fX1_a b32) (fun (r35 : Int32) => (kU1 (((kIf (kEq r35 (0 : Int32)) true false) : Bool)) (fun (z37 : Bool) => (kU1 (fX1_setFlags b32 z37 z5 false z20) (fun (b39 : Nat → Int32) => b39))))))))))))))))))))))))))))
def rmX2_adjustDecimal : Room := { frames := 1, cells := 0, slots := 0, locals := 25 }
def wwX2_adjustDecimal : List Cond := Cond.code yX2_adjustDecimal cX2_adjustDecimal 6 none :: wsL_law
theorem hdX2_adjustDecimal : yX2_adjustDecimal.cls = RX2 ∧ yX2_adjustDecimal.cls ≠ "java/lang/invoke/MethodHandle" ∧ yX2_adjustDecimal.cls ≠ "java/lang/invoke/VarHandle" ∧ (parseMethodDescriptor yX2_adjustDecimal.desc).map (fun d => d.parameters.length) = some 0 := by decide +kernel
set_option maxHeartbeats 4000000 in
set_option maxRecDepth 100000 in
theorem c_X2_adjustDecimal (l : Launch) (D : va_G) (cI : ClassId) (sm rg wa sz : Nat) (v_wd : Nat → Int32)   : Met l yX2_adjustDecimal wwX2_adjustDecimal rmX2_adjustDecimal (va_Pc [.ref sm] (kp D (kX2 cI sm rg wa v_wd) [(cI, .int)] sz)) (va_Qv (fun (u9 : (Nat → Int32)) => u9 = fX2_adjustDecimal v_wd) (fun u9 t => kq D (kX2 cI sm rg wa u9) [(cI, .int)] (va_A (kX2 cI sm rg wa v_wd) sz) t) (va_A (kX2 cI sm rg wa v_wd) sz)) 0 0 (va_A (kX2 cI sm rg wa v_wd) sz) := by
  refine Met.ofW (cc := cX2_adjustDecimal) (maxL := 6) (ret := none) (by decide) rfl ?_
  intro p e s m args below meth c s₁ B hml hv
  obtain ⟨rfl, hsz, hP, hK, hD0, hT⟩ := hv
  have hx := B.exec
  have hb := B.bytes
  have hr := B.returns
  have hts := atoms_spec (ws := wwX2_adjustDecimal) B.pre
  have hws : ∀ w ∈ wsL_law, w.before _ s = true := fun w h => hts w (List.mem_cons_of_mem _ h)
  have hown : s.vm.findClass RX2 = some m.cls := findClass_of_methodNamed B.named
  have hlocks := B.notSynchronized
  subst hsz
  have hD := hD0.self (sz := s.heap.size)
  generalize hAe : va_A (kX2 cI sm rg wa v_wd) s.heap.size = A at hD hT ⊢
  have hA : ∀ q : Nat, s.heap.size ≤ q → A q := fun q h => by rw [← hAe]; exact Or.inr h
  have hS : va_S A s.heap s.heap [] := va_S.rf
  have hl := lv_entry ([.ref sm]) (n := 6) (Nat.le_of_ble_eq_true rfl)
  rw [lg_entry_eq]
  generalize (lg_sl ([.ref sm]) ++ List.replicate (6 - (lg_sl ([.ref sm])).length) Slot.unset).toArray = ls at hl ⊢
  have hl : lv_has ls 6 [(0, .ref sm)] := hl
  generalize hQ : MQ _ _ _ _ _ _ _ = Q
  obtain ⟨H, hHe⟩ : ∃ H : Heap, H = s.heap := ⟨_, rfl⟩
  obtain ⟨locs, hle⟩ : ∃ L : List Loc, L = [] := ⟨_, rfl⟩
  have hP : va_P D vwCl (kX2 cI sm rg wa v_wd) H := by rw [hHe]; exact hP
  have hS : va_S A s.heap H locs := by rw [hHe, hle]; exact hS
  refine kw_start hHe.symm hle.symm ?_
  have hf : fX2_adjustDecimal v_wd = fX2_adjustDecimal v_wd := rfl
  refine lv_aload_n hx hb dX2_adjustDecimal_0 rfl (lv_at hl 0 rfl) ?_
  refine va_get (D := D) (ci := 2) (v := .ref rg) (C := RX2) (T := TX2) (N := 1) hx hb hws inlX2 hown hK hP 0 rfl rfl 0 (by decide) (hws _ mw_33) (fun _ h9 => h9) rfl dX2_adjustDecimal_1 ?_
  refine kc_Vi (wr := [(sm, .inr (2, [.ref rg]))]) (As := []) (rest := []) (fun _ => (kX2 cI sm rg wa v_wd)) ⟨hx, hb, hml, hown, hws⟩ hK hP hD hS hA hT (c_X1_a l D cI rg wa H.size v_wd ) (cwV 0 hws (gw_V mw_295 mw_268 mw_269 mw_32 mw_270) rfl rfl rfl hdX1_a ⟨Nat.le_of_ble_eq_true rfl, Nat.le_of_ble_eq_true rfl⟩) [1, 2] [0] [0] [0, 1, 2] rfl rfl rfl rfl (by decide) rfl (fun _ => rfl) rfl 1 rfl rfl rfl rfl hl.1 rfl (Nat.le_of_ble_eq_true rfl) dX2_adjustDecimal_4 ⟨Nat.zero_le _, Nat.zero_le _⟩ (fun r2 _ H locs hw1 hP hD hS => ?_)
  have hP : va_P D vwCl (kX2 cI sm rg wa v_wd) H := hP
  have hD : va_D A (kX2 cI sm rg wa v_wd) := hD
  have hf := hf.trans (kE1 hw1)
  refine lv_istore_n (lv' := [(1, .int r2), (0, .ref sm)]) hx hb dX2_adjustDecimal_7 rfl hl (by decide) rfl (fun ls hl => ?_)
  refine lv_aload_n hx hb dX2_adjustDecimal_8 rfl (lv_at hl 1 rfl) ?_
  refine va_get (D := D) (ci := 2) (v := .ref rg) (C := RX2) (T := TX2) (N := 1) hx hb hws inlX2 hown hK hP 0 rfl rfl 0 (by decide) (hws _ mw_33) (fun _ h9 => h9) rfl dX2_adjustDecimal_9 ?_
  refine lv_bipush (v := 64) hx hb dX2_adjustDecimal_12 (by decide) ?_
  refine kc_Vi (wr := [(sm, .inr (2, [.ref rg]))]) (As := [.int (64 : Int32)]) (rest := []) (fun _ => (kX2 cI sm rg wa v_wd)) ⟨hx, hb, hml, hown, hws⟩ hK hP hD hS hA hT (c_X1_flag l D cI rg wa H.size v_wd (64 : Int32)) (cwV 1 hws (gw_V mw_203 mw_204 mw_205 mw_32 mw_206) rfl rfl rfl hdX1_flag ⟨Nat.le_of_ble_eq_true rfl, Nat.le_of_ble_eq_true rfl⟩) [1, 2] [0] [0] [0, 1, 2] rfl rfl rfl rfl (by decide) rfl (fun _ => rfl) rfl 1 rfl rfl rfl rfl hl.1 rfl (Nat.le_of_ble_eq_true rfl) dX2_adjustDecimal_14 ⟨Nat.zero_le _, Nat.zero_le _⟩ (fun r4 _ H locs hw3 hP hD hS => ?_)
  obtain ⟨z5, rfl, hw3⟩ := hw3
  have hP : va_P D vwCl (kX2 cI sm rg wa v_wd) H := hP
  have hD : va_D A (kX2 cI sm rg wa v_wd) := hD
  have hf := hf.trans (kE1 hw3)
  refine lv_istore_n (lv' := [(2, .int (bI z5)), (1, .int r2), (0, .ref sm)]) hx hb dX2_adjustDecimal_17 rfl hl (by decide) rfl (fun ls hl => ?_)
  refine lv_aload_n hx hb dX2_adjustDecimal_18 rfl (lv_at hl 2 rfl) ?_
  refine va_get (D := D) (ci := 2) (v := .ref rg) (C := RX2) (T := TX2) (N := 1) hx hb hws inlX2 hown hK hP 0 rfl rfl 0 (by decide) (hws _ mw_33) (fun _ h9 => h9) rfl dX2_adjustDecimal_19 ?_
  refine lv_bipush (v := 32) hx hb dX2_adjustDecimal_22 (by decide) ?_
  refine kc_Vi (wr := [(sm, .inr (2, [.ref rg]))]) (As := [.int (32 : Int32)]) (rest := []) (fun _ => (kX2 cI sm rg wa v_wd)) ⟨hx, hb, hml, hown, hws⟩ hK hP hD hS hA hT (c_X1_flag l D cI rg wa H.size v_wd (32 : Int32)) (cwV 1 hws (gw_V mw_203 mw_204 mw_205 mw_32 mw_206) rfl rfl rfl hdX1_flag ⟨Nat.le_of_ble_eq_true rfl, Nat.le_of_ble_eq_true rfl⟩) [1, 2] [0] [0] [0, 1, 2] rfl rfl rfl rfl (by decide) rfl (fun _ => rfl) rfl 1 rfl rfl rfl rfl hl.1 rfl (Nat.le_of_ble_eq_true rfl) dX2_adjustDecimal_24 ⟨Nat.zero_le _, Nat.zero_le _⟩ (fun r7 _ H locs hw6 hP hD hS => ?_)
  obtain ⟨z8, rfl, hw6⟩ := hw6
  have hP : va_P D vwCl (kX2 cI sm rg wa v_wd) H := hP
  have hD : va_D A (kX2 cI sm rg wa v_wd) := hD
  have hf := hf.trans (kE1 hw6)
  obtain ⟨TJ13, hTJ13⟩ : ∃ T9 : Bool, T9 = (kIf (kEq (bI z8) (0 : Int32)) (kIf (kEq (bI z5) (0 : Int32)) (kIf (kLe (r2 &&& (15 : Int32)) (9 : Int32)) false true) false) true) := ⟨_, rfl⟩
  have J13 : ∀ (z12 : Bool), z12 = TJ13 → ∀ (H : Heap) (locs : List Loc) (ls : Array Slot), lv_has ls 6 [(2, .int (bI z5)), (1, .int r2), (0, .ref sm)] → va_P D vwCl (kX2 cI sm rg wa v_wd) H → va_D A (kX2 cI sm rg wa v_wd) → va_S A s.heap H locs → W p l e (headSpec wwX2_adjustDecimal rmX2_adjustDecimal).room s m ([.ref sm] : List Value).toArray below meth c H locs 0 0 Q (F0 m 48 ls [.int (bI z12)]) := by
    intro z12 eJ13 H locs ls hl hP hD hS
    have hf := hf.trans (kE1 (eJ13.trans hTJ13))
    refine lv_istore_n (lv' := [(3, .int (bI z12)), (2, .int (bI z5)), (1, .int r2), (0, .ref sm)]) hx hb dX2_adjustDecimal_48 rfl hl (by decide) rfl (fun ls hl => ?_)
    refine lv_aload_n hx hb dX2_adjustDecimal_49 rfl (lv_at hl 3 rfl) ?_
    refine va_get (D := D) (ci := 2) (v := .ref rg) (C := RX2) (T := TX2) (N := 1) hx hb hws inlX2 hown hK hP 0 rfl rfl 0 (by decide) (hws _ mw_33) (fun _ h9 => h9) rfl dX2_adjustDecimal_50 ?_
    refine lv_bipush (v := 16) hx hb dX2_adjustDecimal_53 (by decide) ?_
    refine kc_Vi (wr := [(sm, .inr (2, [.ref rg]))]) (As := [.int (16 : Int32)]) (rest := []) (fun _ => (kX2 cI sm rg wa v_wd)) ⟨hx, hb, hml, hown, hws⟩ hK hP hD hS hA hT (c_X1_flag l D cI rg wa H.size v_wd (16 : Int32)) (cwV 1 hws (gw_V mw_203 mw_204 mw_205 mw_32 mw_206) rfl rfl rfl hdX1_flag ⟨Nat.le_of_ble_eq_true rfl, Nat.le_of_ble_eq_true rfl⟩) [1, 2] [0] [0] [0, 1, 2] rfl rfl rfl rfl (by decide) rfl (fun _ => rfl) rfl 1 rfl rfl rfl rfl hl.1 rfl (Nat.le_of_ble_eq_true rfl) dX2_adjustDecimal_55 ⟨Nat.zero_le _, Nat.zero_le _⟩ (fun r15 _ H locs hw14 hP hD hS => ?_)
    obtain ⟨z16, rfl, hw14⟩ := hw14
    have hP : va_P D vwCl (kX2 cI sm rg wa v_wd) H := hP
    have hD : va_D A (kX2 cI sm rg wa v_wd) := hD
    have hf := hf.trans (kE1 hw14)
    obtain ⟨TJ21, hTJ21⟩ : ∃ T9 : Bool, T9 = (kIf (kEq (bI z16) (0 : Int32)) (kIf (kEq (bI z5) (0 : Int32)) (kIf (kLe r2 (153 : Int32)) false true) false) true) := ⟨_, rfl⟩
    have J21 : ∀ (z20 : Bool), z20 = TJ21 → ∀ (H : Heap) (locs : List Loc) (ls : Array Slot), lv_has ls 6 [(3, .int (bI z12)), (2, .int (bI z5)), (1, .int r2), (0, .ref sm)] → va_P D vwCl (kX2 cI sm rg wa v_wd) H → va_D A (kX2 cI sm rg wa v_wd) → va_S A s.heap H locs → W p l e (headSpec wwX2_adjustDecimal rmX2_adjustDecimal).room s m ([.ref sm] : List Value).toArray below meth c H locs 0 0 Q (F0 m 77 ls [.int (bI z20)]) := by
      intro z20 eJ21 H locs ls hl hP hD hS
      have hf := hf.trans (kE1 (eJ21.trans hTJ21))
      refine lv_istore (lv' := [(4, .int (bI z20)), (3, .int (bI z12)), (2, .int (bI z5)), (1, .int r2), (0, .ref sm)]) hx hb dX2_adjustDecimal_77 hl (by decide) rfl (fun ls hl => ?_)
      refine lv_iload_n hx hb dX2_adjustDecimal_79 rfl (lv_at hl 1 rfl) ?_
      obtain ⟨TJ24, hTJ24⟩ : ∃ T9 : Int32, T9 = (kIf (kEq (bI z12) (0 : Int32)) (0 : Int32) (6 : Int32)) := ⟨_, rfl⟩
      have J24 : ∀ (x23 : Int32), x23 = TJ24 → ∀ (H : Heap) (locs : List Loc) (ls : Array Slot), lv_has ls 6 [(4, .int (bI z20)), (3, .int (bI z12)), (2, .int (bI z5)), (1, .int r2), (0, .ref sm)] → va_P D vwCl (kX2 cI sm rg wa v_wd) H → va_D A (kX2 cI sm rg wa v_wd) → va_S A s.heap H locs → W p l e (headSpec wwX2_adjustDecimal rmX2_adjustDecimal).room s m ([.ref sm] : List Value).toArray below meth c H locs 0 0 Q (F0 m 89 ls [.int x23]) := by
        intro x23 eJ24 H locs ls hl hP hD hS
        have hf := hf.trans (kE1 (eJ24.trans hTJ24))
        refine lv_iload hx hb dX2_adjustDecimal_89 (lv_at hl 0 rfl) ?_
        obtain ⟨TJ27, hTJ27⟩ : ∃ T9 : Int32, T9 = (kIf (kEq (bI z20) (0 : Int32)) (0 : Int32) (96 : Int32)) := ⟨_, rfl⟩
        have J27 : ∀ (x26 : Int32), x26 = TJ27 → ∀ (H : Heap) (locs : List Loc) (ls : Array Slot), lv_has ls 6 [(4, .int (bI z20)), (3, .int (bI z12)), (2, .int (bI z5)), (1, .int r2), (0, .ref sm)] → va_P D vwCl (kX2 cI sm rg wa v_wd) H → va_D A (kX2 cI sm rg wa v_wd) → va_S A s.heap H locs → W p l e (headSpec wwX2_adjustDecimal rmX2_adjustDecimal).room s m ([.ref sm] : List Value).toArray below meth c H locs 0 0 Q (F0 m 100 ls [.int x26, .int x23]) := by
          intro x26 eJ27 H locs ls hl hP hD hS
          have hf := hf.trans (kE1 (eJ27.trans hTJ27))
          refine lv_iadd hx hb dX2_adjustDecimal_100 ?_
          refine lv_topi (fun x28 ex28 => ?_)
          have hf := hf.trans (kE1 ex28)
          refine lv_istore (lv' := [(5, .int x28), (4, .int (bI z20)), (3, .int (bI z12)), (2, .int (bI z5)), (1, .int r2), (0, .ref sm)]) hx hb dX2_adjustDecimal_101 hl (by decide) rfl (fun ls hl => ?_)
          refine lv_aload_n hx hb dX2_adjustDecimal_103 rfl (lv_at hl 5 rfl) ?_
          refine va_get (D := D) (ci := 2) (v := .ref rg) (C := RX2) (T := TX2) (N := 1) hx hb hws inlX2 hown hK hP 0 rfl rfl 0 (by decide) (hws _ mw_33) (fun _ h9 => h9) rfl dX2_adjustDecimal_104 ?_
          refine lv_iload_n hx hb dX2_adjustDecimal_107 rfl (lv_at hl 3 rfl) ?_
          obtain ⟨TJ31, hTJ31⟩ : ∃ T9 : Int32, T9 = (kIf (kEq (bI z5) (0 : Int32)) (r2 + x28) (r2 - x28)) := ⟨_, rfl⟩
          have J31 : ∀ (x30 : Int32), x30 = TJ31 → ∀ (H : Heap) (locs : List Loc) (ls : Array Slot), lv_has ls 6 [(5, .int x28), (4, .int (bI z20)), (3, .int (bI z12)), (2, .int (bI z5)), (1, .int r2), (0, .ref sm)] → va_P D vwCl (kX2 cI sm rg wa v_wd) H → va_D A (kX2 cI sm rg wa v_wd) → va_S A s.heap H locs → W p l e (headSpec wwX2_adjustDecimal rmX2_adjustDecimal).room s m ([.ref sm] : List Value).toArray below meth c H locs 0 0 Q (F0 m 122 ls [.int x30, .ref rg]) := by
            intro x30 eJ31 H locs ls hl hP hD hS
            have hf := hf.trans (kE1 (eJ31.trans hTJ31))
            refine kc_Vv (wr := [(sm, .inr (2, [.ref rg]))]) (As := [.int x30]) (rest := []) (fun u9 => (kX2 cI sm rg wa u9)) ⟨hx, hb, hml, hown, hws⟩ hK hP hD hS hA hT (c_X1_setA l D cI rg wa H.size v_wd x30) (cwV 1 hws (gw_V mw_296 mw_272 mw_273 mw_32 mw_274) rfl rfl rfl hdX1_setA ⟨Nat.le_of_ble_eq_true rfl, Nat.le_of_ble_eq_true rfl⟩) [1, 2] [0] [0] [0, 1, 2] rfl rfl rfl rfl (by decide) rfl (fun _ => rfl) rfl 1 rfl rfl rfl rfl hl.1 rfl (Nat.le_of_ble_eq_true rfl) dX2_adjustDecimal_122 ⟨Nat.zero_le _, Nat.zero_le _⟩ (fun b32 H locs hw33 hP hD hS => ?_)
            have hP : va_P D vwCl (kX2 cI sm rg wa b32) H := hP
            have hD : va_D A (kX2 cI sm rg wa b32) := hD
            have hf := hf.trans (kE1 hw33)
            refine lv_aload_n hx hb dX2_adjustDecimal_125 rfl (lv_at hl 5 rfl) ?_
            refine va_get (D := D) (ci := 2) (v := .ref rg) (C := RX2) (T := TX2) (N := 1) hx hb hws inlX2 hown hK hP 0 rfl rfl 0 (by decide) (hws _ mw_33) (fun _ h9 => h9) rfl dX2_adjustDecimal_126 ?_
            refine lv_aload_n hx hb dX2_adjustDecimal_129 rfl (lv_at hl 5 rfl) ?_
            refine va_get (D := D) (ci := 2) (v := .ref rg) (C := RX2) (T := TX2) (N := 1) hx hb hws inlX2 hown hK hP 0 rfl rfl 0 (by decide) (hws _ mw_33) (fun _ h9 => h9) rfl dX2_adjustDecimal_130 ?_
            refine kc_Vi (wr := [(sm, .inr (2, [.ref rg]))]) (As := []) (rest := [.ref rg]) (fun _ => (kX2 cI sm rg wa b32)) ⟨hx, hb, hml, hown, hws⟩ hK hP hD hS hA hT (c_X1_a l D cI rg wa H.size b32 ) (cwV 0 hws (gw_V mw_295 mw_268 mw_269 mw_32 mw_270) rfl rfl rfl hdX1_a ⟨Nat.le_of_ble_eq_true rfl, Nat.le_of_ble_eq_true rfl⟩) [1, 2] [0] [0] [0, 1, 2] rfl rfl rfl rfl (by decide) rfl (fun _ => rfl) rfl 1 rfl rfl rfl rfl hl.1 rfl (Nat.le_of_ble_eq_true rfl) dX2_adjustDecimal_133 ⟨Nat.zero_le _, Nat.zero_le _⟩ (fun r35 _ H locs hw34 hP hD hS => ?_)
            have hP : va_P D vwCl (kX2 cI sm rg wa b32) H := hP
            have hD : va_D A (kX2 cI sm rg wa b32) := hD
            have hf := hf.trans (kE1 hw34)
            obtain ⟨TJ38, hTJ38⟩ : ∃ T9 : Bool, T9 = (kIf (kEq r35 (0 : Int32)) true false) := ⟨_, rfl⟩
            have J38 : ∀ (z37 : Bool), z37 = TJ38 → ∀ (H : Heap) (locs : List Loc) (ls : Array Slot), lv_has ls 6 [(5, .int x28), (4, .int (bI z20)), (3, .int (bI z12)), (2, .int (bI z5)), (1, .int r2), (0, .ref sm)] → va_P D vwCl (kX2 cI sm rg wa b32) H → va_D A (kX2 cI sm rg wa b32) → va_S A s.heap H locs → W p l e (headSpec wwX2_adjustDecimal rmX2_adjustDecimal).room s m ([.ref sm] : List Value).toArray below meth c H locs 0 0 Q (F0 m 144 ls [.int (bI z37), .ref rg]) := by
              intro z37 eJ38 H locs ls hl hP hD hS
              have hf := hf.trans (kE1 (eJ38.trans hTJ38))
              refine lv_iload_n hx hb dX2_adjustDecimal_144 rfl (lv_at hl 3 rfl) ?_
              refine lv_iconst (v := 0) hx hb dX2_adjustDecimal_145 (by decide) ?_
              refine lv_iload hx hb dX2_adjustDecimal_146 (lv_at hl 1 rfl) ?_
              refine kc_Vv (wr := [(sm, .inr (2, [.ref rg]))]) (As := [.int (bI z37), .int (bI z5), .int (bI false), .int (bI z20)]) (rest := []) (fun u9 => (kX2 cI sm rg wa u9)) ⟨hx, hb, hml, hown, hws⟩ hK hP hD hS hA hT (c_X1_setFlags l D cI rg wa H.size b32 z37 z5 false z20) (cwV 4 hws (gw_V mw_210 mw_211 mw_212 mw_32 mw_213) rfl rfl rfl hdX1_setFlags ⟨Nat.le_of_ble_eq_true rfl, Nat.le_of_ble_eq_true rfl⟩) [1, 2] [0] [0] [0, 1, 2] rfl rfl rfl rfl (by decide) rfl (fun _ => rfl) rfl 1 rfl rfl rfl rfl hl.1 rfl (Nat.le_of_ble_eq_true rfl) dX2_adjustDecimal_148 ⟨Nat.zero_le _, Nat.zero_le _⟩ (fun b39 H locs hw40 hP hD hS => ?_)
              have hP : va_P D vwCl (kX2 cI sm rg wa b39) H := hP
              have hD : va_D A (kX2 cI sm rg wa b39) := hD
              have hf := hf.trans (kE1 hw40)
              rw [← hQ]
              exact W.vret hx hb hr (fun t ht hW => ⟨⟨b39, rfl, hf.symm, by rw [ht]; exact hP, va_K.moved hW.alike hK, hD⟩, hS.F ht⟩) hS.2.2 dX2_adjustDecimal_151
            have hf := hTJ38
            refine lv_if_ne (tgt := 143) hx hb dX2_adjustDecimal_136 (by decide) (fun c36 => ?_) (fun c36 => ?_)
            · have hf := hf.trans (kf_eq c36)
              refine lv_iconst (v := 0) hx hb dX2_adjustDecimal_143 (by decide) ?_
              exact J38 false hf.symm H locs ls (lv_sub hl [0, 1, 2, 3, 4, 5] rfl) hP hD hS
            · have hf := hf.trans (kt_eq c36)
              refine lv_iconst (v := 1) hx hb dX2_adjustDecimal_139 (by decide) ?_
              refine lv_goto (tgt := 144) hx hb dX2_adjustDecimal_140 (by decide) ?_
              exact J38 true hf.symm H locs ls (lv_sub hl [0, 1, 2, 3, 4, 5] rfl) hP hD hS
          have hf := hTJ31
          refine lv_if_eq (tgt := 118) hx hb dX2_adjustDecimal_108 (by decide) (fun c29 => ?_) (fun c29 => ?_)
          · have hf := hf.trans (kt_eq c29)
            refine lv_iload_n hx hb dX2_adjustDecimal_118 rfl (lv_at hl 4 rfl) ?_
            refine lv_iload hx hb dX2_adjustDecimal_119 (lv_at hl 0 rfl) ?_
            refine lv_iadd hx hb dX2_adjustDecimal_121 ?_
            exact J31 (r2 + x28) hf.symm H locs ls (lv_sub hl [0, 1, 2, 3, 4, 5] rfl) hP hD hS
          · have hf := hf.trans (kf_eq c29)
            refine lv_iload_n hx hb dX2_adjustDecimal_111 rfl (lv_at hl 4 rfl) ?_
            refine lv_iload hx hb dX2_adjustDecimal_112 (lv_at hl 0 rfl) ?_
            refine lv_isub hx hb dX2_adjustDecimal_114 ?_
            refine lv_goto (tgt := 122) hx hb dX2_adjustDecimal_115 (by decide) ?_
            exact J31 (r2 - x28) hf.symm H locs ls (lv_sub hl [0, 1, 2, 3, 4, 5] rfl) hP hD hS
        have hf := hTJ27
        refine lv_if_eq (tgt := 99) hx hb dX2_adjustDecimal_91 (by decide) (fun c25 => ?_) (fun c25 => ?_)
        · have hf := hf.trans (kt_eq c25)
          refine lv_iconst (v := 0) hx hb dX2_adjustDecimal_99 (by decide) ?_
          exact J27 (0 : Int32) hf.symm H locs ls (lv_sub hl [0, 1, 2, 3, 4] rfl) hP hD hS
        · have hf := hf.trans (kf_eq c25)
          refine lv_bipush (v := 96) hx hb dX2_adjustDecimal_94 (by decide) ?_
          refine lv_goto (tgt := 100) hx hb dX2_adjustDecimal_96 (by decide) ?_
          exact J27 (96 : Int32) hf.symm H locs ls (lv_sub hl [0, 1, 2, 3, 4] rfl) hP hD hS
      have hf := hTJ24
      refine lv_if_eq (tgt := 88) hx hb dX2_adjustDecimal_80 (by decide) (fun c22 => ?_) (fun c22 => ?_)
      · have hf := hf.trans (kt_eq c22)
        refine lv_iconst (v := 0) hx hb dX2_adjustDecimal_88 (by decide) ?_
        exact J24 (0 : Int32) hf.symm H locs ls (lv_sub hl [0, 1, 2, 3, 4] rfl) hP hD hS
      · have hf := hf.trans (kf_eq c22)
        refine lv_bipush (v := 6) hx hb dX2_adjustDecimal_83 (by decide) ?_
        refine lv_goto (tgt := 89) hx hb dX2_adjustDecimal_85 (by decide) ?_
        exact J24 (6 : Int32) hf.symm H locs ls (lv_sub hl [0, 1, 2, 3, 4] rfl) hP hD hS
    have hf := hTJ21
    refine lv_if_ne (tgt := 72) hx hb dX2_adjustDecimal_58 (by decide) (fun c17 => ?_) (fun c17 => ?_)
    · have hf := hf.trans (kf_eq c17)
      refine lv_iconst (v := 1) hx hb dX2_adjustDecimal_72 (by decide) ?_
      refine lv_goto (tgt := 77) hx hb dX2_adjustDecimal_73 (by decide) ?_
      exact J21 true hf.symm H locs ls (lv_sub hl [0, 1, 2, 3] rfl) hP hD hS
    · have hf := hf.trans (kt_eq c17)
      refine lv_iload_n hx hb dX2_adjustDecimal_61 rfl (lv_at hl 1 rfl) ?_
      refine lv_if_ne (tgt := 76) hx hb dX2_adjustDecimal_62 (by decide) (fun c18 => ?_) (fun c18 => ?_)
      · have hf := hf.trans (kf_eq c18)
        refine lv_iconst (v := 0) hx hb dX2_adjustDecimal_76 (by decide) ?_
        exact J21 false hf.symm H locs ls (lv_sub hl [0, 1, 2, 3] rfl) hP hD hS
      · have hf := hf.trans (kt_eq c18)
        refine lv_iload_n hx hb dX2_adjustDecimal_65 rfl (lv_at hl 2 rfl) ?_
        refine lv_sipush (v := 153) hx hb dX2_adjustDecimal_66 (by decide) ?_
        refine lv_icmp_le (tgt := 76) hx hb dX2_adjustDecimal_69 (by decide) (fun c19 => ?_) (fun c19 => ?_)
        · have hf := hf.trans (kt_le c19)
          refine lv_iconst (v := 0) hx hb dX2_adjustDecimal_76 (by decide) ?_
          exact J21 false hf.symm H locs ls (lv_sub hl [0, 1, 2, 3] rfl) hP hD hS
        · have hf := hf.trans (kf_le c19)
          refine lv_iconst (v := 1) hx hb dX2_adjustDecimal_72 (by decide) ?_
          refine lv_goto (tgt := 77) hx hb dX2_adjustDecimal_73 (by decide) ?_
          exact J21 true hf.symm H locs ls (lv_sub hl [0, 1, 2, 3] rfl) hP hD hS
  have hf := hTJ13
  refine lv_if_ne (tgt := 43) hx hb dX2_adjustDecimal_27 (by decide) (fun c9 => ?_) (fun c9 => ?_)
  · have hf := hf.trans (kf_eq c9)
    refine lv_iconst (v := 1) hx hb dX2_adjustDecimal_43 (by decide) ?_
    refine lv_goto (tgt := 48) hx hb dX2_adjustDecimal_44 (by decide) ?_
    exact J13 true hf.symm H locs ls (lv_sub hl [0, 1, 2] rfl) hP hD hS
  · have hf := hf.trans (kt_eq c9)
    refine lv_iload_n hx hb dX2_adjustDecimal_30 rfl (lv_at hl 0 rfl) ?_
    refine lv_if_ne (tgt := 47) hx hb dX2_adjustDecimal_31 (by decide) (fun c10 => ?_) (fun c10 => ?_)
    · have hf := hf.trans (kf_eq c10)
      refine lv_iconst (v := 0) hx hb dX2_adjustDecimal_47 (by decide) ?_
      exact J13 false hf.symm H locs ls (lv_sub hl [0, 1, 2] rfl) hP hD hS
    · have hf := hf.trans (kt_eq c10)
      refine lv_iload_n hx hb dX2_adjustDecimal_34 rfl (lv_at hl 1 rfl) ?_
      refine lv_bipush (v := 15) hx hb dX2_adjustDecimal_35 (by decide) ?_
      refine lv_iand hx hb dX2_adjustDecimal_37 ?_
      refine lv_bipush (v := 9) hx hb dX2_adjustDecimal_38 (by decide) ?_
      refine lv_icmp_le (tgt := 47) hx hb dX2_adjustDecimal_40 (by decide) (fun c11 => ?_) (fun c11 => ?_)
      · have hf := hf.trans (kt_le c11)
        refine lv_iconst (v := 0) hx hb dX2_adjustDecimal_47 (by decide) ?_
        exact J13 false hf.symm H locs ls (lv_sub hl [0, 1, 2] rfl) hP hD hS
      · have hf := hf.trans (kf_le c11)
        refine lv_iconst (v := 1) hx hb dX2_adjustDecimal_43 (by decide) ?_
        refine lv_goto (tgt := 48) hx hb dX2_adjustDecimal_44 (by decide) ?_
        exact J13 true hf.symm H locs ls (lv_sub hl [0, 1, 2] rfl) hP hD hS
def fX2_changeA (v_wd : Nat → Int32) (a1 : Int32) : (Nat → Int32) := (kU1 (fX1_flag v_wd (128 : Int32)) (fun (z3 : Bool) => (kIf (kEq a1 (4 : Int32)) (kU1 (fX2_adjustDecimal v_wd) (fun (b5 : Nat → Int32) => b5)) (kIf (kEq a1 (5 : Int32)) (kU1 (fX1_a v_wd) (fun (r9 : Int32) => (kU1 (fX1_setA v_wd (r9 ^^^ (-1 : Int32))) (fun (b10 : Nat → Int32) => (kU1 (fX1_flag b10 (16 : Int32)) (fun (z14 : Bool) => (kU1 (fX1_setFlags b10 z3 true true z14) (fun (b15 : Nat → Int32) => b15)))))))) (kIf (kEq a1 (6 : Int32)) (kU1 (fX1_setFlags v_wd z3 false false true) (fun (b18 : Nat → Int32) => b18)) (kIf (kEq a1 (7 : Int32)) (kU1 (fX1_flag v_wd (16 : Int32)) (fun (z23 : Bool) => (kU1 (((kIf (kEq (bI z23) (0 : Int32)) true false) : Bool)) (fun (z25 : Bool) => (kU1 (fX1_setFlags v_wd z3 false false z25) (fun (b27 : Nat → Int32) => b27)))))) (kU1 (fX1_a v_wd) (fun (r30 : Int32) => (kU2 (fX2_shift v_wd a1 r30) (fun (r33 : Int32) (b31 : Nat → Int32) => (kU1 (fX1_setA b31 r33) (fun (b34 : Nat → Int32) => (kU1 (fX1_flag b34 (16 : Int32)) (fun (z38 : Bool) => (kU1 (fX1_setFlags b34 false false false z38) (fun (b39 : Nat → Int32) => b39))))))))))))))))
def rmX2_changeA : Room := { frames := 2, cells := 0, slots := 0, locals := 50 }
def wwX2_changeA : List Cond := Cond.code yX2_changeA cX2_changeA 3 none :: wsL_law
theorem hdX2_changeA : yX2_changeA.cls = RX2 ∧ yX2_changeA.cls ≠ "java/lang/invoke/MethodHandle" ∧ yX2_changeA.cls ≠ "java/lang/invoke/VarHandle" ∧ (parseMethodDescriptor yX2_changeA.desc).map (fun d => d.parameters.length) = some 1 := by decide +kernel
set_option maxHeartbeats 4000000 in
set_option maxRecDepth 100000 in
theorem c_X2_changeA (l : Launch) (D : va_G) (cI : ClassId) (sm rg wa sz : Nat) (v_wd : Nat → Int32) (a1 : Int32)  : Met l yX2_changeA wwX2_changeA rmX2_changeA (va_Pc [.ref sm, .int a1] (kp D (kX2 cI sm rg wa v_wd) [(cI, .int)] sz)) (va_Qv (fun (u9 : (Nat → Int32)) => u9 = fX2_changeA v_wd a1) (fun u9 t => kq D (kX2 cI sm rg wa u9) [(cI, .int)] (va_A (kX2 cI sm rg wa v_wd) sz) t) (va_A (kX2 cI sm rg wa v_wd) sz)) 0 0 (va_A (kX2 cI sm rg wa v_wd) sz) := by
  refine Met.ofW (cc := cX2_changeA) (maxL := 3) (ret := none) (by decide) rfl ?_
  intro p e s m args below meth c s₁ B hml hv
  obtain ⟨rfl, hsz, hP, hK, hD0, hT⟩ := hv
  have hx := B.exec
  have hb := B.bytes
  have hr := B.returns
  have hts := atoms_spec (ws := wwX2_changeA) B.pre
  have hws : ∀ w ∈ wsL_law, w.before _ s = true := fun w h => hts w (List.mem_cons_of_mem _ h)
  have hown : s.vm.findClass RX2 = some m.cls := findClass_of_methodNamed B.named
  have hlocks := B.notSynchronized
  subst hsz
  have hD := hD0.self (sz := s.heap.size)
  generalize hAe : va_A (kX2 cI sm rg wa v_wd) s.heap.size = A at hD hT ⊢
  have hA : ∀ q : Nat, s.heap.size ≤ q → A q := fun q h => by rw [← hAe]; exact Or.inr h
  have hS : va_S A s.heap s.heap [] := va_S.rf
  have hl := lv_entry ([.ref sm, .int a1]) (n := 3) (Nat.le_of_ble_eq_true rfl)
  rw [lg_entry_eq]
  generalize (lg_sl ([.ref sm, .int a1]) ++ List.replicate (3 - (lg_sl ([.ref sm, .int a1])).length) Slot.unset).toArray = ls at hl ⊢
  have hl : lv_has ls 3 [(0, .ref sm), (1, .int a1)] := hl
  generalize hQ : MQ _ _ _ _ _ _ _ = Q
  obtain ⟨H, hHe⟩ : ∃ H : Heap, H = s.heap := ⟨_, rfl⟩
  obtain ⟨locs, hle⟩ : ∃ L : List Loc, L = [] := ⟨_, rfl⟩
  have hP : va_P D vwCl (kX2 cI sm rg wa v_wd) H := by rw [hHe]; exact hP
  have hS : va_S A s.heap H locs := by rw [hHe, hle]; exact hS
  refine kw_start hHe.symm hle.symm ?_
  have hf : fX2_changeA v_wd a1 = fX2_changeA v_wd a1 := rfl
  refine lv_aload_n hx hb dX2_changeA_0 rfl (lv_at hl 0 rfl) ?_
  refine va_get (D := D) (ci := 2) (v := .ref rg) (C := RX2) (T := TX2) (N := 1) hx hb hws inlX2 hown hK hP 0 rfl rfl 0 (by decide) (hws _ mw_33) (fun _ h9 => h9) rfl dX2_changeA_1 ?_
  refine lv_sipush (v := 128) hx hb dX2_changeA_4 (by decide) ?_
  refine kc_Vi (wr := [(sm, .inr (2, [.ref rg]))]) (As := [.int (128 : Int32)]) (rest := []) (fun _ => (kX2 cI sm rg wa v_wd)) ⟨hx, hb, hml, hown, hws⟩ hK hP hD hS hA hT (c_X1_flag l D cI rg wa H.size v_wd (128 : Int32)) (cwV 1 hws (gw_V mw_203 mw_204 mw_205 mw_32 mw_206) rfl rfl rfl hdX1_flag ⟨Nat.le_of_ble_eq_true rfl, Nat.le_of_ble_eq_true rfl⟩) [1, 2] [0] [0] [0, 1, 2] rfl rfl rfl rfl (by decide) rfl (fun _ => rfl) rfl 1 rfl rfl rfl rfl hl.1 rfl (Nat.le_of_ble_eq_true rfl) dX2_changeA_7 ⟨Nat.zero_le _, Nat.zero_le _⟩ (fun r2 _ H locs hw1 hP hD hS => ?_)
  obtain ⟨z3, rfl, hw1⟩ := hw1
  have hP : va_P D vwCl (kX2 cI sm rg wa v_wd) H := hP
  have hD : va_D A (kX2 cI sm rg wa v_wd) := hD
  have hf := hf.trans (kE1 hw1)
  refine lv_istore_n (lv' := [(2, .int (bI z3)), (0, .ref sm), (1, .int a1)]) hx hb dX2_changeA_10 rfl hl (by decide) rfl (fun ls hl => ?_)
  refine lv_iload_n hx hb dX2_changeA_11 rfl (lv_at hl 2 rfl) ?_
  by_cases c4 : a1 = (4 : Int32)
  · have hf := hf.trans (kt_eq c4)
    refine lv_tableIn (off := 32) (tgt := 44) hx hb dX2_changeA_12 (by rw [c4]; decide) (by rw [c4]; decide) (by rw [c4]; decide) (by decide) ?_
    refine lv_aload_n hx hb dX2_changeA_44 rfl (lv_at hl 1 rfl) ?_
    refine kc_Vv (wr := []) (As := []) (rest := []) (fun u9 => (kX2 cI sm rg wa u9)) ⟨hx, hb, hml, hown, hws⟩ hK hP hD hS hA hT (c_X2_adjustDecimal l D cI sm rg wa H.size v_wd ) (cwV 0 hws (gw_V mw_291 mw_292 mw_293 mw_18 mw_294) rfl rfl rfl hdX2_adjustDecimal ⟨Nat.le_of_ble_eq_true rfl, Nat.le_of_ble_eq_true rfl⟩) [0, 1, 2] [] [0] [0, 1, 2] rfl rfl rfl rfl (by decide) rfl (fun _ => rfl) rfl 0 rfl rfl rfl rfl hl.1 rfl (Nat.le_of_ble_eq_true rfl) dX2_changeA_45 ⟨Nat.zero_le _, Nat.zero_le _⟩ (fun b5 H locs hw6 hP hD hS => ?_)
    have hP : va_P D vwCl (kX2 cI sm rg wa b5) H := hP
    have hD : va_D A (kX2 cI sm rg wa b5) := hD
    have hf := hf.trans (kE1 hw6)
    refine lv_goto (tgt := 171) hx hb dX2_changeA_48 (by decide) ?_
    rw [← hQ]
    exact W.vret hx hb hr (fun t ht hW => ⟨⟨b5, rfl, hf.symm, by rw [ht]; exact hP, va_K.moved hW.alike hK, hD⟩, hS.F ht⟩) hS.2.2 dX2_changeA_171
  · have hf := hf.trans (kf_eq c4)
    by_cases c7 : a1 = (5 : Int32)
    · have hf := hf.trans (kt_eq c7)
      refine lv_tableIn (off := 39) (tgt := 51) hx hb dX2_changeA_12 (by rw [c7]; decide) (by rw [c7]; decide) (by rw [c7]; decide) (by decide) ?_
      refine lv_aload_n hx hb dX2_changeA_51 rfl (lv_at hl 1 rfl) ?_
      refine va_get (D := D) (ci := 2) (v := .ref rg) (C := RX2) (T := TX2) (N := 1) hx hb hws inlX2 hown hK hP 0 rfl rfl 0 (by decide) (hws _ mw_33) (fun _ h9 => h9) rfl dX2_changeA_52 ?_
      refine lv_aload_n hx hb dX2_changeA_55 rfl (lv_at hl 1 rfl) ?_
      refine va_get (D := D) (ci := 2) (v := .ref rg) (C := RX2) (T := TX2) (N := 1) hx hb hws inlX2 hown hK hP 0 rfl rfl 0 (by decide) (hws _ mw_33) (fun _ h9 => h9) rfl dX2_changeA_56 ?_
      refine kc_Vi (wr := [(sm, .inr (2, [.ref rg]))]) (As := []) (rest := [.ref rg]) (fun _ => (kX2 cI sm rg wa v_wd)) ⟨hx, hb, hml, hown, hws⟩ hK hP hD hS hA hT (c_X1_a l D cI rg wa H.size v_wd ) (cwV 0 hws (gw_V mw_295 mw_268 mw_269 mw_32 mw_270) rfl rfl rfl hdX1_a ⟨Nat.le_of_ble_eq_true rfl, Nat.le_of_ble_eq_true rfl⟩) [1, 2] [0] [0] [0, 1, 2] rfl rfl rfl rfl (by decide) rfl (fun _ => rfl) rfl 1 rfl rfl rfl rfl hl.1 rfl (Nat.le_of_ble_eq_true rfl) dX2_changeA_59 ⟨Nat.zero_le _, Nat.zero_le _⟩ (fun r9 _ H locs hw8 hP hD hS => ?_)
      have hP : va_P D vwCl (kX2 cI sm rg wa v_wd) H := hP
      have hD : va_D A (kX2 cI sm rg wa v_wd) := hD
      have hf := hf.trans (kE1 hw8)
      refine lv_iconst (v := -1) hx hb dX2_changeA_62 (by decide) ?_
      refine lv_ixor hx hb dX2_changeA_63 ?_
      refine kc_Vv (wr := [(sm, .inr (2, [.ref rg]))]) (As := [.int (r9 ^^^ (-1 : Int32))]) (rest := []) (fun u9 => (kX2 cI sm rg wa u9)) ⟨hx, hb, hml, hown, hws⟩ hK hP hD hS hA hT (c_X1_setA l D cI rg wa H.size v_wd (r9 ^^^ (-1 : Int32))) (cwV 1 hws (gw_V mw_296 mw_272 mw_273 mw_32 mw_274) rfl rfl rfl hdX1_setA ⟨Nat.le_of_ble_eq_true rfl, Nat.le_of_ble_eq_true rfl⟩) [1, 2] [0] [0] [0, 1, 2] rfl rfl rfl rfl (by decide) rfl (fun _ => rfl) rfl 1 rfl rfl rfl rfl hl.1 rfl (Nat.le_of_ble_eq_true rfl) dX2_changeA_64 ⟨Nat.zero_le _, Nat.zero_le _⟩ (fun b10 H locs hw11 hP hD hS => ?_)
      have hP : va_P D vwCl (kX2 cI sm rg wa b10) H := hP
      have hD : va_D A (kX2 cI sm rg wa b10) := hD
      have hf := hf.trans (kE1 hw11)
      refine lv_aload_n hx hb dX2_changeA_67 rfl (lv_at hl 1 rfl) ?_
      refine va_get (D := D) (ci := 2) (v := .ref rg) (C := RX2) (T := TX2) (N := 1) hx hb hws inlX2 hown hK hP 0 rfl rfl 0 (by decide) (hws _ mw_33) (fun _ h9 => h9) rfl dX2_changeA_68 ?_
      refine lv_iload_n hx hb dX2_changeA_71 rfl (lv_at hl 0 rfl) ?_
      refine lv_iconst (v := 1) hx hb dX2_changeA_72 (by decide) ?_
      refine lv_iconst (v := 1) hx hb dX2_changeA_73 (by decide) ?_
      refine lv_aload_n hx hb dX2_changeA_74 rfl (lv_at hl 1 rfl) ?_
      refine va_get (D := D) (ci := 2) (v := .ref rg) (C := RX2) (T := TX2) (N := 1) hx hb hws inlX2 hown hK hP 0 rfl rfl 0 (by decide) (hws _ mw_33) (fun _ h9 => h9) rfl dX2_changeA_75 ?_
      refine lv_bipush (v := 16) hx hb dX2_changeA_78 (by decide) ?_
      refine kc_Vi (wr := [(sm, .inr (2, [.ref rg]))]) (As := [.int (16 : Int32)]) (rest := [.int (1 : Int32), .int (1 : Int32), .int (bI z3), .ref rg]) (fun _ => (kX2 cI sm rg wa b10)) ⟨hx, hb, hml, hown, hws⟩ hK hP hD hS hA hT (c_X1_flag l D cI rg wa H.size b10 (16 : Int32)) (cwV 1 hws (gw_V mw_203 mw_204 mw_205 mw_32 mw_206) rfl rfl rfl hdX1_flag ⟨Nat.le_of_ble_eq_true rfl, Nat.le_of_ble_eq_true rfl⟩) [1, 2] [0] [0] [0, 1, 2] rfl rfl rfl rfl (by decide) rfl (fun _ => rfl) rfl 1 rfl rfl rfl rfl hl.1 rfl (Nat.le_of_ble_eq_true rfl) dX2_changeA_80 ⟨Nat.zero_le _, Nat.zero_le _⟩ (fun r13 _ H locs hw12 hP hD hS => ?_)
      obtain ⟨z14, rfl, hw12⟩ := hw12
      have hP : va_P D vwCl (kX2 cI sm rg wa b10) H := hP
      have hD : va_D A (kX2 cI sm rg wa b10) := hD
      have hf := hf.trans (kE1 hw12)
      refine kc_Vv (wr := [(sm, .inr (2, [.ref rg]))]) (As := [.int (bI z3), .int (bI true), .int (bI true), .int (bI z14)]) (rest := []) (fun u9 => (kX2 cI sm rg wa u9)) ⟨hx, hb, hml, hown, hws⟩ hK hP hD hS hA hT (c_X1_setFlags l D cI rg wa H.size b10 z3 true true z14) (cwV 4 hws (gw_V mw_210 mw_211 mw_212 mw_32 mw_213) rfl rfl rfl hdX1_setFlags ⟨Nat.le_of_ble_eq_true rfl, Nat.le_of_ble_eq_true rfl⟩) [1, 2] [0] [0] [0, 1, 2] rfl rfl rfl rfl (by decide) rfl (fun _ => rfl) rfl 1 rfl rfl rfl rfl hl.1 rfl (Nat.le_of_ble_eq_true rfl) dX2_changeA_83 ⟨Nat.zero_le _, Nat.zero_le _⟩ (fun b15 H locs hw16 hP hD hS => ?_)
      have hP : va_P D vwCl (kX2 cI sm rg wa b15) H := hP
      have hD : va_D A (kX2 cI sm rg wa b15) := hD
      have hf := hf.trans (kE1 hw16)
      refine lv_goto (tgt := 171) hx hb dX2_changeA_86 (by decide) ?_
      rw [← hQ]
      exact W.vret hx hb hr (fun t ht hW => ⟨⟨b15, rfl, hf.symm, by rw [ht]; exact hP, va_K.moved hW.alike hK, hD⟩, hS.F ht⟩) hS.2.2 dX2_changeA_171
    · have hf := hf.trans (kf_eq c7)
      by_cases c17 : a1 = (6 : Int32)
      · have hf := hf.trans (kt_eq c17)
        refine lv_tableIn (off := 77) (tgt := 89) hx hb dX2_changeA_12 (by rw [c17]; decide) (by rw [c17]; decide) (by rw [c17]; decide) (by decide) ?_
        refine lv_aload_n hx hb dX2_changeA_89 rfl (lv_at hl 1 rfl) ?_
        refine va_get (D := D) (ci := 2) (v := .ref rg) (C := RX2) (T := TX2) (N := 1) hx hb hws inlX2 hown hK hP 0 rfl rfl 0 (by decide) (hws _ mw_33) (fun _ h9 => h9) rfl dX2_changeA_90 ?_
        refine lv_iload_n hx hb dX2_changeA_93 rfl (lv_at hl 0 rfl) ?_
        refine lv_iconst (v := 0) hx hb dX2_changeA_94 (by decide) ?_
        refine lv_iconst (v := 0) hx hb dX2_changeA_95 (by decide) ?_
        refine lv_iconst (v := 1) hx hb dX2_changeA_96 (by decide) ?_
        refine kc_Vv (wr := [(sm, .inr (2, [.ref rg]))]) (As := [.int (bI z3), .int (bI false), .int (bI false), .int (bI true)]) (rest := []) (fun u9 => (kX2 cI sm rg wa u9)) ⟨hx, hb, hml, hown, hws⟩ hK hP hD hS hA hT (c_X1_setFlags l D cI rg wa H.size v_wd z3 false false true) (cwV 4 hws (gw_V mw_210 mw_211 mw_212 mw_32 mw_213) rfl rfl rfl hdX1_setFlags ⟨Nat.le_of_ble_eq_true rfl, Nat.le_of_ble_eq_true rfl⟩) [1, 2] [0] [0] [0, 1, 2] rfl rfl rfl rfl (by decide) rfl (fun _ => rfl) rfl 1 rfl rfl rfl rfl hl.1 rfl (Nat.le_of_ble_eq_true rfl) dX2_changeA_97 ⟨Nat.zero_le _, Nat.zero_le _⟩ (fun b18 H locs hw19 hP hD hS => ?_)
        have hP : va_P D vwCl (kX2 cI sm rg wa b18) H := hP
        have hD : va_D A (kX2 cI sm rg wa b18) := hD
        have hf := hf.trans (kE1 hw19)
        refine lv_goto (tgt := 171) hx hb dX2_changeA_100 (by decide) ?_
        rw [← hQ]
        exact W.vret hx hb hr (fun t ht hW => ⟨⟨b18, rfl, hf.symm, by rw [ht]; exact hP, va_K.moved hW.alike hK, hD⟩, hS.F ht⟩) hS.2.2 dX2_changeA_171
      · have hf := hf.trans (kf_eq c17)
        by_cases c20 : a1 = (7 : Int32)
        · have hf := hf.trans (kt_eq c20)
          refine lv_tableIn (off := 91) (tgt := 103) hx hb dX2_changeA_12 (by rw [c20]; decide) (by rw [c20]; decide) (by rw [c20]; decide) (by decide) ?_
          refine lv_aload_n hx hb dX2_changeA_103 rfl (lv_at hl 1 rfl) ?_
          refine va_get (D := D) (ci := 2) (v := .ref rg) (C := RX2) (T := TX2) (N := 1) hx hb hws inlX2 hown hK hP 0 rfl rfl 0 (by decide) (hws _ mw_33) (fun _ h9 => h9) rfl dX2_changeA_104 ?_
          refine lv_iload_n hx hb dX2_changeA_107 rfl (lv_at hl 0 rfl) ?_
          refine lv_iconst (v := 0) hx hb dX2_changeA_108 (by decide) ?_
          refine lv_iconst (v := 0) hx hb dX2_changeA_109 (by decide) ?_
          refine lv_aload_n hx hb dX2_changeA_110 rfl (lv_at hl 1 rfl) ?_
          refine va_get (D := D) (ci := 2) (v := .ref rg) (C := RX2) (T := TX2) (N := 1) hx hb hws inlX2 hown hK hP 0 rfl rfl 0 (by decide) (hws _ mw_33) (fun _ h9 => h9) rfl dX2_changeA_111 ?_
          refine lv_bipush (v := 16) hx hb dX2_changeA_114 (by decide) ?_
          refine kc_Vi (wr := [(sm, .inr (2, [.ref rg]))]) (As := [.int (16 : Int32)]) (rest := [.int (0 : Int32), .int (0 : Int32), .int (bI z3), .ref rg]) (fun _ => (kX2 cI sm rg wa v_wd)) ⟨hx, hb, hml, hown, hws⟩ hK hP hD hS hA hT (c_X1_flag l D cI rg wa H.size v_wd (16 : Int32)) (cwV 1 hws (gw_V mw_203 mw_204 mw_205 mw_32 mw_206) rfl rfl rfl hdX1_flag ⟨Nat.le_of_ble_eq_true rfl, Nat.le_of_ble_eq_true rfl⟩) [1, 2] [0] [0] [0, 1, 2] rfl rfl rfl rfl (by decide) rfl (fun _ => rfl) rfl 1 rfl rfl rfl rfl hl.1 rfl (Nat.le_of_ble_eq_true rfl) dX2_changeA_116 ⟨Nat.zero_le _, Nat.zero_le _⟩ (fun r22 _ H locs hw21 hP hD hS => ?_)
          obtain ⟨z23, rfl, hw21⟩ := hw21
          have hP : va_P D vwCl (kX2 cI sm rg wa v_wd) H := hP
          have hD : va_D A (kX2 cI sm rg wa v_wd) := hD
          have hf := hf.trans (kE1 hw21)
          obtain ⟨TJ26, hTJ26⟩ : ∃ T9 : Bool, T9 = (kIf (kEq (bI z23) (0 : Int32)) true false) := ⟨_, rfl⟩
          have J26 : ∀ (z25 : Bool), z25 = TJ26 → ∀ (H : Heap) (locs : List Loc) (ls : Array Slot), lv_has ls 3 [(2, .int (bI z3)), (0, .ref sm), (1, .int a1)] → va_P D vwCl (kX2 cI sm rg wa v_wd) H → va_D A (kX2 cI sm rg wa v_wd) → va_S A s.heap H locs → W p l e (headSpec wwX2_changeA rmX2_changeA).room s m ([.ref sm, .int a1] : List Value).toArray below meth c H locs 0 0 Q (F0 m 127 ls [.int (bI z25), .int (0 : Int32), .int (0 : Int32), .int (bI z3), .ref rg]) := by
            intro z25 eJ26 H locs ls hl hP hD hS
            have hf := hf.trans (kE1 (eJ26.trans hTJ26))
            refine kc_Vv (wr := [(sm, .inr (2, [.ref rg]))]) (As := [.int (bI z3), .int (bI false), .int (bI false), .int (bI z25)]) (rest := []) (fun u9 => (kX2 cI sm rg wa u9)) ⟨hx, hb, hml, hown, hws⟩ hK hP hD hS hA hT (c_X1_setFlags l D cI rg wa H.size v_wd z3 false false z25) (cwV 4 hws (gw_V mw_210 mw_211 mw_212 mw_32 mw_213) rfl rfl rfl hdX1_setFlags ⟨Nat.le_of_ble_eq_true rfl, Nat.le_of_ble_eq_true rfl⟩) [1, 2] [0] [0] [0, 1, 2] rfl rfl rfl rfl (by decide) rfl (fun _ => rfl) rfl 1 rfl rfl rfl rfl hl.1 rfl (Nat.le_of_ble_eq_true rfl) dX2_changeA_127 ⟨Nat.zero_le _, Nat.zero_le _⟩ (fun b27 H locs hw28 hP hD hS => ?_)
            have hP : va_P D vwCl (kX2 cI sm rg wa b27) H := hP
            have hD : va_D A (kX2 cI sm rg wa b27) := hD
            have hf := hf.trans (kE1 hw28)
            refine lv_goto (tgt := 171) hx hb dX2_changeA_130 (by decide) ?_
            rw [← hQ]
            exact W.vret hx hb hr (fun t ht hW => ⟨⟨b27, rfl, hf.symm, by rw [ht]; exact hP, va_K.moved hW.alike hK, hD⟩, hS.F ht⟩) hS.2.2 dX2_changeA_171
          have hf := hTJ26
          refine lv_if_ne (tgt := 126) hx hb dX2_changeA_119 (by decide) (fun c24 => ?_) (fun c24 => ?_)
          · have hf := hf.trans (kf_eq c24)
            refine lv_iconst (v := 0) hx hb dX2_changeA_126 (by decide) ?_
            exact J26 false hf.symm H locs ls (lv_sub hl [0, 1, 2] rfl) hP hD hS
          · have hf := hf.trans (kt_eq c24)
            refine lv_iconst (v := 1) hx hb dX2_changeA_122 (by decide) ?_
            refine lv_goto (tgt := 127) hx hb dX2_changeA_123 (by decide) ?_
            exact J26 true hf.symm H locs ls (lv_sub hl [0, 1, 2] rfl) hP hD hS
        · have hf := hf.trans (kf_eq c20)
          refine lv_tableOut (tgt := 133) hx hb dX2_changeA_12 (by have n4 := lv_neT c4 (a := 4) rfl; have n5 := lv_neT c7 (a := 5) rfl; have n6 := lv_neT c17 (a := 6) rfl; have n7 := lv_neT c20 (a := 7) rfl; omega) (by decide) ?_
          refine lv_aload_n hx hb dX2_changeA_133 rfl (lv_at hl 1 rfl) ?_
          refine va_get (D := D) (ci := 2) (v := .ref rg) (C := RX2) (T := TX2) (N := 1) hx hb hws inlX2 hown hK hP 0 rfl rfl 0 (by decide) (hws _ mw_33) (fun _ h9 => h9) rfl dX2_changeA_134 ?_
          refine lv_aload_n hx hb dX2_changeA_137 rfl (lv_at hl 1 rfl) ?_
          refine lv_iload_n hx hb dX2_changeA_138 rfl (lv_at hl 2 rfl) ?_
          refine lv_aload_n hx hb dX2_changeA_139 rfl (lv_at hl 1 rfl) ?_
          refine va_get (D := D) (ci := 2) (v := .ref rg) (C := RX2) (T := TX2) (N := 1) hx hb hws inlX2 hown hK hP 0 rfl rfl 0 (by decide) (hws _ mw_33) (fun _ h9 => h9) rfl dX2_changeA_140 ?_
          refine kc_Vi (wr := [(sm, .inr (2, [.ref rg]))]) (As := []) (rest := [.int a1, .ref sm, .ref rg]) (fun _ => (kX2 cI sm rg wa v_wd)) ⟨hx, hb, hml, hown, hws⟩ hK hP hD hS hA hT (c_X1_a l D cI rg wa H.size v_wd ) (cwV 0 hws (gw_V mw_295 mw_268 mw_269 mw_32 mw_270) rfl rfl rfl hdX1_a ⟨Nat.le_of_ble_eq_true rfl, Nat.le_of_ble_eq_true rfl⟩) [1, 2] [0] [0] [0, 1, 2] rfl rfl rfl rfl (by decide) rfl (fun _ => rfl) rfl 1 rfl rfl rfl rfl hl.1 rfl (Nat.le_of_ble_eq_true rfl) dX2_changeA_143 ⟨Nat.zero_le _, Nat.zero_le _⟩ (fun r30 _ H locs hw29 hP hD hS => ?_)
          have hP : va_P D vwCl (kX2 cI sm rg wa v_wd) H := hP
          have hD : va_D A (kX2 cI sm rg wa v_wd) := hD
          have hf := hf.trans (kE1 hw29)
          refine kc_Vi (wr := []) (As := [.int a1, .int r30]) (rest := [.ref rg]) (fun u9 => (kX2 cI sm rg wa u9)) ⟨hx, hb, hml, hown, hws⟩ hK hP hD hS hA hT (c_X2_shift l D cI sm rg wa H.size v_wd a1 r30) (cwV 2 hws (gw_V mw_297 mw_200 mw_201 mw_18 mw_202) rfl rfl rfl hdX2_shift ⟨Nat.le_of_ble_eq_true rfl, Nat.le_of_ble_eq_true rfl⟩) [0, 1, 2] [] [0] [0, 1, 2] rfl rfl rfl rfl (by decide) rfl (fun _ => rfl) rfl 0 rfl rfl rfl rfl hl.1 rfl (Nat.le_of_ble_eq_true rfl) dX2_changeA_146 ⟨Nat.zero_le _, Nat.zero_le _⟩ (fun r33 b31 H locs hw32 hP hD hS => ?_)
          have hP : va_P D vwCl (kX2 cI sm rg wa b31) H := hP
          have hD : va_D A (kX2 cI sm rg wa b31) := hD
          have hf := hf.trans (kE2 hw32)
          refine kc_Vv (wr := [(sm, .inr (2, [.ref rg]))]) (As := [.int r33]) (rest := []) (fun u9 => (kX2 cI sm rg wa u9)) ⟨hx, hb, hml, hown, hws⟩ hK hP hD hS hA hT (c_X1_setA l D cI rg wa H.size b31 r33) (cwV 1 hws (gw_V mw_296 mw_272 mw_273 mw_32 mw_274) rfl rfl rfl hdX1_setA ⟨Nat.le_of_ble_eq_true rfl, Nat.le_of_ble_eq_true rfl⟩) [1, 2] [0] [0] [0, 1, 2] rfl rfl rfl rfl (by decide) rfl (fun _ => rfl) rfl 1 rfl rfl rfl rfl hl.1 rfl (Nat.le_of_ble_eq_true rfl) dX2_changeA_149 ⟨Nat.zero_le _, Nat.zero_le _⟩ (fun b34 H locs hw35 hP hD hS => ?_)
          have hP : va_P D vwCl (kX2 cI sm rg wa b34) H := hP
          have hD : va_D A (kX2 cI sm rg wa b34) := hD
          have hf := hf.trans (kE1 hw35)
          refine lv_aload_n hx hb dX2_changeA_152 rfl (lv_at hl 1 rfl) ?_
          refine va_get (D := D) (ci := 2) (v := .ref rg) (C := RX2) (T := TX2) (N := 1) hx hb hws inlX2 hown hK hP 0 rfl rfl 0 (by decide) (hws _ mw_33) (fun _ h9 => h9) rfl dX2_changeA_153 ?_
          refine lv_iconst (v := 0) hx hb dX2_changeA_156 (by decide) ?_
          refine lv_iconst (v := 0) hx hb dX2_changeA_157 (by decide) ?_
          refine lv_iconst (v := 0) hx hb dX2_changeA_158 (by decide) ?_
          refine lv_aload_n hx hb dX2_changeA_159 rfl (lv_at hl 1 rfl) ?_
          refine va_get (D := D) (ci := 2) (v := .ref rg) (C := RX2) (T := TX2) (N := 1) hx hb hws inlX2 hown hK hP 0 rfl rfl 0 (by decide) (hws _ mw_33) (fun _ h9 => h9) rfl dX2_changeA_160 ?_
          refine lv_bipush (v := 16) hx hb dX2_changeA_163 (by decide) ?_
          refine kc_Vi (wr := [(sm, .inr (2, [.ref rg]))]) (As := [.int (16 : Int32)]) (rest := [.int (0 : Int32), .int (0 : Int32), .int (0 : Int32), .ref rg]) (fun _ => (kX2 cI sm rg wa b34)) ⟨hx, hb, hml, hown, hws⟩ hK hP hD hS hA hT (c_X1_flag l D cI rg wa H.size b34 (16 : Int32)) (cwV 1 hws (gw_V mw_203 mw_204 mw_205 mw_32 mw_206) rfl rfl rfl hdX1_flag ⟨Nat.le_of_ble_eq_true rfl, Nat.le_of_ble_eq_true rfl⟩) [1, 2] [0] [0] [0, 1, 2] rfl rfl rfl rfl (by decide) rfl (fun _ => rfl) rfl 1 rfl rfl rfl rfl hl.1 rfl (Nat.le_of_ble_eq_true rfl) dX2_changeA_165 ⟨Nat.zero_le _, Nat.zero_le _⟩ (fun r37 _ H locs hw36 hP hD hS => ?_)
          obtain ⟨z38, rfl, hw36⟩ := hw36
          have hP : va_P D vwCl (kX2 cI sm rg wa b34) H := hP
          have hD : va_D A (kX2 cI sm rg wa b34) := hD
          have hf := hf.trans (kE1 hw36)
          refine kc_Vv (wr := [(sm, .inr (2, [.ref rg]))]) (As := [.int (bI false), .int (bI false), .int (bI false), .int (bI z38)]) (rest := []) (fun u9 => (kX2 cI sm rg wa u9)) ⟨hx, hb, hml, hown, hws⟩ hK hP hD hS hA hT (c_X1_setFlags l D cI rg wa H.size b34 false false false z38) (cwV 4 hws (gw_V mw_210 mw_211 mw_212 mw_32 mw_213) rfl rfl rfl hdX1_setFlags ⟨Nat.le_of_ble_eq_true rfl, Nat.le_of_ble_eq_true rfl⟩) [1, 2] [0] [0] [0, 1, 2] rfl rfl rfl rfl (by decide) rfl (fun _ => rfl) rfl 1 rfl rfl rfl rfl hl.1 rfl (Nat.le_of_ble_eq_true rfl) dX2_changeA_168 ⟨Nat.zero_le _, Nat.zero_le _⟩ (fun b39 H locs hw40 hP hD hS => ?_)
          have hP : va_P D vwCl (kX2 cI sm rg wa b39) H := hP
          have hD : va_D A (kX2 cI sm rg wa b39) := hD
          have hf := hf.trans (kE1 hw40)
          rw [← hQ]
          exact W.vret hx hb hr (fun t ht hW => ⟨⟨b39, rfl, hf.symm, by rw [ht]; exact hP, va_K.moved hW.alike hK, hD⟩, hS.F ht⟩) hS.2.2 dX2_changeA_171
def fX2_add (v_wd : Nat → Int32) (a1 : Int32) (a2 : Int32) : (Nat → Int32) := (kU1 (fX1_a v_wd) (fun (r2 : Int32) => (kU1 (((r2 + a1) + a2)) (fun (x3 : Int32) => (kU1 (fX1_setA v_wd x3) (fun (b4 : Nat → Int32) => (kU1 (((kIf (kEq (x3 &&& (255 : Int32)) (0 : Int32)) true false) : Bool)) (fun (z7 : Bool) => (kU1 (((kIf (kLe (((r2 &&& (15 : Int32)) + (a1 &&& (15 : Int32))) + a2) (15 : Int32)) false true) : Bool)) (fun (z10 : Bool) => (kU1 (((kIf (kLe x3 (255 : Int32)) false true) : Bool)) (fun (z13 : Bool) => (kU1 (fX1_setFlags b4 z7 false z10 z13) (fun (b15 : Nat → Int32) => b15))))))))))))))
def rmX2_add : Room := { frames := 1, cells := 0, slots := 0, locals := 25 }
def wwX2_add : List Cond := Cond.code yX2_add cX2_add 5 none :: wsL_law
theorem hdX2_add : yX2_add.cls = RX2 ∧ yX2_add.cls ≠ "java/lang/invoke/MethodHandle" ∧ yX2_add.cls ≠ "java/lang/invoke/VarHandle" ∧ (parseMethodDescriptor yX2_add.desc).map (fun d => d.parameters.length) = some 2 := by decide +kernel
set_option maxHeartbeats 4000000 in
set_option maxRecDepth 100000 in
theorem c_X2_add (l : Launch) (D : va_G) (cI : ClassId) (sm rg wa sz : Nat) (v_wd : Nat → Int32) (a1 : Int32) (a2 : Int32)  : Met l yX2_add wwX2_add rmX2_add (va_Pc [.ref sm, .int a1, .int a2] (kp D (kX2 cI sm rg wa v_wd) [(cI, .int)] sz)) (va_Qv (fun (u9 : (Nat → Int32)) => u9 = fX2_add v_wd a1 a2) (fun u9 t => kq D (kX2 cI sm rg wa u9) [(cI, .int)] (va_A (kX2 cI sm rg wa v_wd) sz) t) (va_A (kX2 cI sm rg wa v_wd) sz)) 0 0 (va_A (kX2 cI sm rg wa v_wd) sz) := by
  refine Met.ofW (cc := cX2_add) (maxL := 5) (ret := none) (by decide) rfl ?_
  intro p e s m args below meth c s₁ B hml hv
  obtain ⟨rfl, hsz, hP, hK, hD0, hT⟩ := hv
  have hx := B.exec
  have hb := B.bytes
  have hr := B.returns
  have hts := atoms_spec (ws := wwX2_add) B.pre
  have hws : ∀ w ∈ wsL_law, w.before _ s = true := fun w h => hts w (List.mem_cons_of_mem _ h)
  have hown : s.vm.findClass RX2 = some m.cls := findClass_of_methodNamed B.named
  have hlocks := B.notSynchronized
  subst hsz
  have hD := hD0.self (sz := s.heap.size)
  generalize hAe : va_A (kX2 cI sm rg wa v_wd) s.heap.size = A at hD hT ⊢
  have hA : ∀ q : Nat, s.heap.size ≤ q → A q := fun q h => by rw [← hAe]; exact Or.inr h
  have hS : va_S A s.heap s.heap [] := va_S.rf
  have hl := lv_entry ([.ref sm, .int a1, .int a2]) (n := 5) (Nat.le_of_ble_eq_true rfl)
  rw [lg_entry_eq]
  generalize (lg_sl ([.ref sm, .int a1, .int a2]) ++ List.replicate (5 - (lg_sl ([.ref sm, .int a1, .int a2])).length) Slot.unset).toArray = ls at hl ⊢
  have hl : lv_has ls 5 [(0, .ref sm), (1, .int a1), (2, .int a2)] := hl
  generalize hQ : MQ _ _ _ _ _ _ _ = Q
  obtain ⟨H, hHe⟩ : ∃ H : Heap, H = s.heap := ⟨_, rfl⟩
  obtain ⟨locs, hle⟩ : ∃ L : List Loc, L = [] := ⟨_, rfl⟩
  have hP : va_P D vwCl (kX2 cI sm rg wa v_wd) H := by rw [hHe]; exact hP
  have hS : va_S A s.heap H locs := by rw [hHe, hle]; exact hS
  refine kw_start hHe.symm hle.symm ?_
  have hf : fX2_add v_wd a1 a2 = fX2_add v_wd a1 a2 := rfl
  refine lv_aload_n hx hb dX2_add_0 rfl (lv_at hl 0 rfl) ?_
  refine va_get (D := D) (ci := 2) (v := .ref rg) (C := RX2) (T := TX2) (N := 1) hx hb hws inlX2 hown hK hP 0 rfl rfl 0 (by decide) (hws _ mw_33) (fun _ h9 => h9) rfl dX2_add_1 ?_
  refine kc_Vi (wr := [(sm, .inr (2, [.ref rg]))]) (As := []) (rest := []) (fun _ => (kX2 cI sm rg wa v_wd)) ⟨hx, hb, hml, hown, hws⟩ hK hP hD hS hA hT (c_X1_a l D cI rg wa H.size v_wd ) (cwV 0 hws (gw_V mw_295 mw_268 mw_269 mw_32 mw_270) rfl rfl rfl hdX1_a ⟨Nat.le_of_ble_eq_true rfl, Nat.le_of_ble_eq_true rfl⟩) [1, 2] [0] [0] [0, 1, 2] rfl rfl rfl rfl (by decide) rfl (fun _ => rfl) rfl 1 rfl rfl rfl rfl hl.1 rfl (Nat.le_of_ble_eq_true rfl) dX2_add_4 ⟨Nat.zero_le _, Nat.zero_le _⟩ (fun r2 _ H locs hw1 hP hD hS => ?_)
  have hP : va_P D vwCl (kX2 cI sm rg wa v_wd) H := hP
  have hD : va_D A (kX2 cI sm rg wa v_wd) := hD
  have hf := hf.trans (kE1 hw1)
  refine lv_istore_n (lv' := [(3, .int r2), (0, .ref sm), (1, .int a1), (2, .int a2)]) hx hb dX2_add_7 rfl hl (by decide) rfl (fun ls hl => ?_)
  refine lv_iload_n hx hb dX2_add_8 rfl (lv_at hl 0 rfl) ?_
  refine lv_iload_n hx hb dX2_add_9 rfl (lv_at hl 2 rfl) ?_
  refine lv_iadd hx hb dX2_add_10 ?_
  refine lv_iload_n hx hb dX2_add_11 rfl (lv_at hl 3 rfl) ?_
  refine lv_iadd hx hb dX2_add_12 ?_
  refine lv_topi (fun x3 ex3 => ?_)
  have hf := hf.trans (kE1 ex3)
  refine lv_istore (lv' := [(4, .int x3), (3, .int r2), (0, .ref sm), (1, .int a1), (2, .int a2)]) hx hb dX2_add_13 hl (by decide) rfl (fun ls hl => ?_)
  refine lv_aload_n hx hb dX2_add_15 rfl (lv_at hl 2 rfl) ?_
  refine va_get (D := D) (ci := 2) (v := .ref rg) (C := RX2) (T := TX2) (N := 1) hx hb hws inlX2 hown hK hP 0 rfl rfl 0 (by decide) (hws _ mw_33) (fun _ h9 => h9) rfl dX2_add_16 ?_
  refine lv_iload hx hb dX2_add_19 (lv_at hl 0 rfl) ?_
  refine kc_Vv (wr := [(sm, .inr (2, [.ref rg]))]) (As := [.int x3]) (rest := []) (fun u9 => (kX2 cI sm rg wa u9)) ⟨hx, hb, hml, hown, hws⟩ hK hP hD hS hA hT (c_X1_setA l D cI rg wa H.size v_wd x3) (cwV 1 hws (gw_V mw_296 mw_272 mw_273 mw_32 mw_274) rfl rfl rfl hdX1_setA ⟨Nat.le_of_ble_eq_true rfl, Nat.le_of_ble_eq_true rfl⟩) [1, 2] [0] [0] [0, 1, 2] rfl rfl rfl rfl (by decide) rfl (fun _ => rfl) rfl 1 rfl rfl rfl rfl hl.1 rfl (Nat.le_of_ble_eq_true rfl) dX2_add_21 ⟨Nat.zero_le _, Nat.zero_le _⟩ (fun b4 H locs hw5 hP hD hS => ?_)
  have hP : va_P D vwCl (kX2 cI sm rg wa b4) H := hP
  have hD : va_D A (kX2 cI sm rg wa b4) := hD
  have hf := hf.trans (kE1 hw5)
  refine lv_aload_n hx hb dX2_add_24 rfl (lv_at hl 2 rfl) ?_
  refine va_get (D := D) (ci := 2) (v := .ref rg) (C := RX2) (T := TX2) (N := 1) hx hb hws inlX2 hown hK hP 0 rfl rfl 0 (by decide) (hws _ mw_33) (fun _ h9 => h9) rfl dX2_add_25 ?_
  refine lv_iload hx hb dX2_add_28 (lv_at hl 0 rfl) ?_
  refine lv_sipush (v := 255) hx hb dX2_add_30 (by decide) ?_
  refine lv_iand hx hb dX2_add_33 ?_
  obtain ⟨TJ8, hTJ8⟩ : ∃ T9 : Bool, T9 = (kIf (kEq (x3 &&& (255 : Int32)) (0 : Int32)) true false) := ⟨_, rfl⟩
  have J8 : ∀ (z7 : Bool), z7 = TJ8 → ∀ (H : Heap) (locs : List Loc) (ls : Array Slot), lv_has ls 5 [(4, .int x3), (3, .int r2), (0, .ref sm), (1, .int a1), (2, .int a2)] → va_P D vwCl (kX2 cI sm rg wa b4) H → va_D A (kX2 cI sm rg wa b4) → va_S A s.heap H locs → W p l e (headSpec wwX2_add rmX2_add).room s m ([.ref sm, .int a1, .int a2] : List Value).toArray below meth c H locs 0 0 Q (F0 m 42 ls [.int (bI z7), .ref rg]) := by
    intro z7 eJ8 H locs ls hl hP hD hS
    have hf := hf.trans (kE1 (eJ8.trans hTJ8))
    refine lv_iconst (v := 0) hx hb dX2_add_42 (by decide) ?_
    refine lv_iload_n hx hb dX2_add_43 rfl (lv_at hl 1 rfl) ?_
    refine lv_bipush (v := 15) hx hb dX2_add_44 (by decide) ?_
    refine lv_iand hx hb dX2_add_46 ?_
    refine lv_iload_n hx hb dX2_add_47 rfl (lv_at hl 3 rfl) ?_
    refine lv_bipush (v := 15) hx hb dX2_add_48 (by decide) ?_
    refine lv_iand hx hb dX2_add_50 ?_
    refine lv_iadd hx hb dX2_add_51 ?_
    refine lv_iload_n hx hb dX2_add_52 rfl (lv_at hl 4 rfl) ?_
    refine lv_iadd hx hb dX2_add_53 ?_
    refine lv_bipush (v := 15) hx hb dX2_add_54 (by decide) ?_
    obtain ⟨TJ11, hTJ11⟩ : ∃ T9 : Bool, T9 = (kIf (kLe (((r2 &&& (15 : Int32)) + (a1 &&& (15 : Int32))) + a2) (15 : Int32)) false true) := ⟨_, rfl⟩
    have J11 : ∀ (z10 : Bool), z10 = TJ11 → ∀ (H : Heap) (locs : List Loc) (ls : Array Slot), lv_has ls 5 [(4, .int x3), (3, .int r2), (0, .ref sm), (1, .int a1), (2, .int a2)] → va_P D vwCl (kX2 cI sm rg wa b4) H → va_D A (kX2 cI sm rg wa b4) → va_S A s.heap H locs → W p l e (headSpec wwX2_add rmX2_add).room s m ([.ref sm, .int a1, .int a2] : List Value).toArray below meth c H locs 0 0 Q (F0 m 64 ls [.int (bI z10), .int (0 : Int32), .int (bI z7), .ref rg]) := by
      intro z10 eJ11 H locs ls hl hP hD hS
      have hf := hf.trans (kE1 (eJ11.trans hTJ11))
      refine lv_iload hx hb dX2_add_64 (lv_at hl 0 rfl) ?_
      refine lv_sipush (v := 255) hx hb dX2_add_66 (by decide) ?_
      obtain ⟨TJ14, hTJ14⟩ : ∃ T9 : Bool, T9 = (kIf (kLe x3 (255 : Int32)) false true) := ⟨_, rfl⟩
      have J14 : ∀ (z13 : Bool), z13 = TJ14 → ∀ (H : Heap) (locs : List Loc) (ls : Array Slot), lv_has ls 5 [(4, .int x3), (3, .int r2), (0, .ref sm), (1, .int a1), (2, .int a2)] → va_P D vwCl (kX2 cI sm rg wa b4) H → va_D A (kX2 cI sm rg wa b4) → va_S A s.heap H locs → W p l e (headSpec wwX2_add rmX2_add).room s m ([.ref sm, .int a1, .int a2] : List Value).toArray below meth c H locs 0 0 Q (F0 m 77 ls [.int (bI z13), .int (bI z10), .int (0 : Int32), .int (bI z7), .ref rg]) := by
        intro z13 eJ14 H locs ls hl hP hD hS
        have hf := hf.trans (kE1 (eJ14.trans hTJ14))
        refine kc_Vv (wr := [(sm, .inr (2, [.ref rg]))]) (As := [.int (bI z7), .int (bI false), .int (bI z10), .int (bI z13)]) (rest := []) (fun u9 => (kX2 cI sm rg wa u9)) ⟨hx, hb, hml, hown, hws⟩ hK hP hD hS hA hT (c_X1_setFlags l D cI rg wa H.size b4 z7 false z10 z13) (cwV 4 hws (gw_V mw_210 mw_211 mw_212 mw_32 mw_213) rfl rfl rfl hdX1_setFlags ⟨Nat.le_of_ble_eq_true rfl, Nat.le_of_ble_eq_true rfl⟩) [1, 2] [0] [0] [0, 1, 2] rfl rfl rfl rfl (by decide) rfl (fun _ => rfl) rfl 1 rfl rfl rfl rfl hl.1 rfl (Nat.le_of_ble_eq_true rfl) dX2_add_77 ⟨Nat.zero_le _, Nat.zero_le _⟩ (fun b15 H locs hw16 hP hD hS => ?_)
        have hP : va_P D vwCl (kX2 cI sm rg wa b15) H := hP
        have hD : va_D A (kX2 cI sm rg wa b15) := hD
        have hf := hf.trans (kE1 hw16)
        rw [← hQ]
        exact W.vret hx hb hr (fun t ht hW => ⟨⟨b15, rfl, hf.symm, by rw [ht]; exact hP, va_K.moved hW.alike hK, hD⟩, hS.F ht⟩) hS.2.2 dX2_add_80
      have hf := hTJ14
      refine lv_icmp_le (tgt := 76) hx hb dX2_add_69 (by decide) (fun c12 => ?_) (fun c12 => ?_)
      · have hf := hf.trans (kt_le c12)
        refine lv_iconst (v := 0) hx hb dX2_add_76 (by decide) ?_
        exact J14 false hf.symm H locs ls (lv_sub hl [0, 1, 2, 3, 4] rfl) hP hD hS
      · have hf := hf.trans (kf_le c12)
        refine lv_iconst (v := 1) hx hb dX2_add_72 (by decide) ?_
        refine lv_goto (tgt := 77) hx hb dX2_add_73 (by decide) ?_
        exact J14 true hf.symm H locs ls (lv_sub hl [0, 1, 2, 3, 4] rfl) hP hD hS
    have hf := hTJ11
    refine lv_icmp_le (tgt := 63) hx hb dX2_add_56 (by decide) (fun c9 => ?_) (fun c9 => ?_)
    · have hf := hf.trans (kt_le c9)
      refine lv_iconst (v := 0) hx hb dX2_add_63 (by decide) ?_
      exact J11 false hf.symm H locs ls (lv_sub hl [0, 1, 2, 3, 4] rfl) hP hD hS
    · have hf := hf.trans (kf_le c9)
      refine lv_iconst (v := 1) hx hb dX2_add_59 (by decide) ?_
      refine lv_goto (tgt := 64) hx hb dX2_add_60 (by decide) ?_
      exact J11 true hf.symm H locs ls (lv_sub hl [0, 1, 2, 3, 4] rfl) hP hD hS
  have hf := hTJ8
  refine lv_if_ne (tgt := 41) hx hb dX2_add_34 (by decide) (fun c6 => ?_) (fun c6 => ?_)
  · have hf := hf.trans (kf_eq c6)
    refine lv_iconst (v := 0) hx hb dX2_add_41 (by decide) ?_
    exact J8 false hf.symm H locs ls (lv_sub hl [0, 1, 2, 3, 4] rfl) hP hD hS
  · have hf := hf.trans (kt_eq c6)
    refine lv_iconst (v := 1) hx hb dX2_add_37 (by decide) ?_
    refine lv_goto (tgt := 42) hx hb dX2_add_38 (by decide) ?_
    exact J8 true hf.symm H locs ls (lv_sub hl [0, 1, 2, 3, 4] rfl) hP hD hS
def fX2_subtract (v_wd : Nat → Int32) (a1 : Int32) (a2 : Int32) (a3 : Bool) : (Nat → Int32) := (kU1 (fX1_a v_wd) (fun (r2 : Int32) => (kU1 (((r2 - a1) - a2)) (fun (x3 : Int32) => (kU1 (((kIf (kEq (bI a3) (0 : Int32)) v_wd (kU1 (fX1_setA v_wd x3) (fun (b5 : Nat → Int32) => b5))) : (Nat → Int32))) (fun (b7 : Nat → Int32) => (kU1 (((kIf (kEq (x3 &&& (255 : Int32)) (0 : Int32)) true false) : Bool)) (fun (z10 : Bool) => (kU1 (((kIf (kLe (0 : Int32) (((r2 &&& (15 : Int32)) - (a1 &&& (15 : Int32))) - a2)) false true) : Bool)) (fun (z13 : Bool) => (kU1 (((kIf (kLe (0 : Int32) x3) false true) : Bool)) (fun (z16 : Bool) => (kU1 (fX1_setFlags b7 z10 true z13 z16) (fun (b18 : Nat → Int32) => b18))))))))))))))
def rmX2_subtract : Room := { frames := 1, cells := 0, slots := 0, locals := 25 }
def wwX2_subtract : List Cond := Cond.code yX2_subtract cX2_subtract 6 none :: wsL_law
theorem hdX2_subtract : yX2_subtract.cls = RX2 ∧ yX2_subtract.cls ≠ "java/lang/invoke/MethodHandle" ∧ yX2_subtract.cls ≠ "java/lang/invoke/VarHandle" ∧ (parseMethodDescriptor yX2_subtract.desc).map (fun d => d.parameters.length) = some 3 := by decide +kernel
set_option maxHeartbeats 4000000 in
set_option maxRecDepth 100000 in
theorem c_X2_subtract (l : Launch) (D : va_G) (cI : ClassId) (sm rg wa sz : Nat) (v_wd : Nat → Int32) (a1 : Int32) (a2 : Int32) (a3 : Bool)  : Met l yX2_subtract wwX2_subtract rmX2_subtract (va_Pc [.ref sm, .int a1, .int a2, .int (bI a3)] (kp D (kX2 cI sm rg wa v_wd) [(cI, .int)] sz)) (va_Qv (fun (u9 : (Nat → Int32)) => u9 = fX2_subtract v_wd a1 a2 a3) (fun u9 t => kq D (kX2 cI sm rg wa u9) [(cI, .int)] (va_A (kX2 cI sm rg wa v_wd) sz) t) (va_A (kX2 cI sm rg wa v_wd) sz)) 0 0 (va_A (kX2 cI sm rg wa v_wd) sz) := by
  refine Met.ofW (cc := cX2_subtract) (maxL := 6) (ret := none) (by decide) rfl ?_
  intro p e s m args below meth c s₁ B hml hv
  obtain ⟨rfl, hsz, hP, hK, hD0, hT⟩ := hv
  have hx := B.exec
  have hb := B.bytes
  have hr := B.returns
  have hts := atoms_spec (ws := wwX2_subtract) B.pre
  have hws : ∀ w ∈ wsL_law, w.before _ s = true := fun w h => hts w (List.mem_cons_of_mem _ h)
  have hown : s.vm.findClass RX2 = some m.cls := findClass_of_methodNamed B.named
  have hlocks := B.notSynchronized
  subst hsz
  have hD := hD0.self (sz := s.heap.size)
  generalize hAe : va_A (kX2 cI sm rg wa v_wd) s.heap.size = A at hD hT ⊢
  have hA : ∀ q : Nat, s.heap.size ≤ q → A q := fun q h => by rw [← hAe]; exact Or.inr h
  have hS : va_S A s.heap s.heap [] := va_S.rf
  have hl := lv_entry ([.ref sm, .int a1, .int a2, .int (bI a3)]) (n := 6) (Nat.le_of_ble_eq_true rfl)
  rw [lg_entry_eq]
  generalize (lg_sl ([.ref sm, .int a1, .int a2, .int (bI a3)]) ++ List.replicate (6 - (lg_sl ([.ref sm, .int a1, .int a2, .int (bI a3)])).length) Slot.unset).toArray = ls at hl ⊢
  have hl : lv_has ls 6 [(0, .ref sm), (1, .int a1), (2, .int a2), (3, .int (bI a3))] := hl
  generalize hQ : MQ _ _ _ _ _ _ _ = Q
  obtain ⟨H, hHe⟩ : ∃ H : Heap, H = s.heap := ⟨_, rfl⟩
  obtain ⟨locs, hle⟩ : ∃ L : List Loc, L = [] := ⟨_, rfl⟩
  have hP : va_P D vwCl (kX2 cI sm rg wa v_wd) H := by rw [hHe]; exact hP
  have hS : va_S A s.heap H locs := by rw [hHe, hle]; exact hS
  refine kw_start hHe.symm hle.symm ?_
  have hf : fX2_subtract v_wd a1 a2 a3 = fX2_subtract v_wd a1 a2 a3 := rfl
  refine lv_aload_n hx hb dX2_subtract_0 rfl (lv_at hl 0 rfl) ?_
  refine va_get (D := D) (ci := 2) (v := .ref rg) (C := RX2) (T := TX2) (N := 1) hx hb hws inlX2 hown hK hP 0 rfl rfl 0 (by decide) (hws _ mw_33) (fun _ h9 => h9) rfl dX2_subtract_1 ?_
  refine kc_Vi (wr := [(sm, .inr (2, [.ref rg]))]) (As := []) (rest := []) (fun _ => (kX2 cI sm rg wa v_wd)) ⟨hx, hb, hml, hown, hws⟩ hK hP hD hS hA hT (c_X1_a l D cI rg wa H.size v_wd ) (cwV 0 hws (gw_V mw_295 mw_268 mw_269 mw_32 mw_270) rfl rfl rfl hdX1_a ⟨Nat.le_of_ble_eq_true rfl, Nat.le_of_ble_eq_true rfl⟩) [1, 2] [0] [0] [0, 1, 2] rfl rfl rfl rfl (by decide) rfl (fun _ => rfl) rfl 1 rfl rfl rfl rfl hl.1 rfl (Nat.le_of_ble_eq_true rfl) dX2_subtract_4 ⟨Nat.zero_le _, Nat.zero_le _⟩ (fun r2 _ H locs hw1 hP hD hS => ?_)
  have hP : va_P D vwCl (kX2 cI sm rg wa v_wd) H := hP
  have hD : va_D A (kX2 cI sm rg wa v_wd) := hD
  have hf := hf.trans (kE1 hw1)
  refine lv_istore (lv' := [(4, .int r2), (0, .ref sm), (1, .int a1), (2, .int a2), (3, .int (bI a3))]) hx hb dX2_subtract_7 hl (by decide) rfl (fun ls hl => ?_)
  refine lv_iload hx hb dX2_subtract_9 (lv_at hl 0 rfl) ?_
  refine lv_iload_n hx hb dX2_subtract_11 rfl (lv_at hl 2 rfl) ?_
  refine lv_isub hx hb dX2_subtract_12 ?_
  refine lv_iload_n hx hb dX2_subtract_13 rfl (lv_at hl 3 rfl) ?_
  refine lv_isub hx hb dX2_subtract_14 ?_
  refine lv_topi (fun x3 ex3 => ?_)
  have hf := hf.trans (kE1 ex3)
  refine lv_istore (lv' := [(5, .int x3), (4, .int r2), (0, .ref sm), (1, .int a1), (2, .int a2), (3, .int (bI a3))]) hx hb dX2_subtract_15 hl (by decide) rfl (fun ls hl => ?_)
  refine lv_iload_n hx hb dX2_subtract_17 rfl (lv_at hl 5 rfl) ?_
  obtain ⟨TJ8, hTJ8⟩ : ∃ T9 : (Nat → Int32), T9 = (kIf (kEq (bI a3) (0 : Int32)) v_wd (kU1 (fX1_setA v_wd x3) (fun (b5 : Nat → Int32) => b5))) := ⟨_, rfl⟩
  have J8 : ∀ (b7 : Nat → Int32), b7 = TJ8 → ∀ (H : Heap) (locs : List Loc) (ls : Array Slot), lv_has ls 6 [(5, .int x3), (4, .int r2), (0, .ref sm), (1, .int a1), (2, .int a2), (3, .int (bI a3))] → va_P D vwCl (kX2 cI sm rg wa b7) H → va_D A (kX2 cI sm rg wa b7) → va_S A s.heap H locs → W p l e (headSpec wwX2_subtract rmX2_subtract).room s m ([.ref sm, .int a1, .int a2, .int (bI a3)] : List Value).toArray below meth c H locs 0 0 Q (F0 m 30 ls []) := by
    intro b7 eJ8 H locs ls hl hP hD hS
    have hf := hf.trans (kE1 (eJ8.trans hTJ8))
    refine lv_aload_n hx hb dX2_subtract_30 rfl (lv_at hl 2 rfl) ?_
    refine va_get (D := D) (ci := 2) (v := .ref rg) (C := RX2) (T := TX2) (N := 1) hx hb hws inlX2 hown hK hP 0 rfl rfl 0 (by decide) (hws _ mw_33) (fun _ h9 => h9) rfl dX2_subtract_31 ?_
    refine lv_iload hx hb dX2_subtract_34 (lv_at hl 0 rfl) ?_
    refine lv_sipush (v := 255) hx hb dX2_subtract_36 (by decide) ?_
    refine lv_iand hx hb dX2_subtract_39 ?_
    obtain ⟨TJ11, hTJ11⟩ : ∃ T9 : Bool, T9 = (kIf (kEq (x3 &&& (255 : Int32)) (0 : Int32)) true false) := ⟨_, rfl⟩
    have J11 : ∀ (z10 : Bool), z10 = TJ11 → ∀ (H : Heap) (locs : List Loc) (ls : Array Slot), lv_has ls 6 [(5, .int x3), (4, .int r2), (0, .ref sm), (1, .int a1), (2, .int a2), (3, .int (bI a3))] → va_P D vwCl (kX2 cI sm rg wa b7) H → va_D A (kX2 cI sm rg wa b7) → va_S A s.heap H locs → W p l e (headSpec wwX2_subtract rmX2_subtract).room s m ([.ref sm, .int a1, .int a2, .int (bI a3)] : List Value).toArray below meth c H locs 0 0 Q (F0 m 48 ls [.int (bI z10), .ref rg]) := by
      intro z10 eJ11 H locs ls hl hP hD hS
      have hf := hf.trans (kE1 (eJ11.trans hTJ11))
      refine lv_iconst (v := 1) hx hb dX2_subtract_48 (by decide) ?_
      refine lv_iload hx hb dX2_subtract_49 (lv_at hl 1 rfl) ?_
      refine lv_bipush (v := 15) hx hb dX2_subtract_51 (by decide) ?_
      refine lv_iand hx hb dX2_subtract_53 ?_
      refine lv_iload_n hx hb dX2_subtract_54 rfl (lv_at hl 3 rfl) ?_
      refine lv_bipush (v := 15) hx hb dX2_subtract_55 (by decide) ?_
      refine lv_iand hx hb dX2_subtract_57 ?_
      refine lv_isub hx hb dX2_subtract_58 ?_
      refine lv_iload_n hx hb dX2_subtract_59 rfl (lv_at hl 4 rfl) ?_
      refine lv_isub hx hb dX2_subtract_60 ?_
      obtain ⟨TJ14, hTJ14⟩ : ∃ T9 : Bool, T9 = (kIf (kLe (0 : Int32) (((r2 &&& (15 : Int32)) - (a1 &&& (15 : Int32))) - a2)) false true) := ⟨_, rfl⟩
      have J14 : ∀ (z13 : Bool), z13 = TJ14 → ∀ (H : Heap) (locs : List Loc) (ls : Array Slot), lv_has ls 6 [(5, .int x3), (4, .int r2), (0, .ref sm), (1, .int a1), (2, .int a2), (3, .int (bI a3))] → va_P D vwCl (kX2 cI sm rg wa b7) H → va_D A (kX2 cI sm rg wa b7) → va_S A s.heap H locs → W p l e (headSpec wwX2_subtract rmX2_subtract).room s m ([.ref sm, .int a1, .int a2, .int (bI a3)] : List Value).toArray below meth c H locs 0 0 Q (F0 m 69 ls [.int (bI z13), .int (1 : Int32), .int (bI z10), .ref rg]) := by
        intro z13 eJ14 H locs ls hl hP hD hS
        have hf := hf.trans (kE1 (eJ14.trans hTJ14))
        refine lv_iload hx hb dX2_subtract_69 (lv_at hl 0 rfl) ?_
        obtain ⟨TJ17, hTJ17⟩ : ∃ T9 : Bool, T9 = (kIf (kLe (0 : Int32) x3) false true) := ⟨_, rfl⟩
        have J17 : ∀ (z16 : Bool), z16 = TJ17 → ∀ (H : Heap) (locs : List Loc) (ls : Array Slot), lv_has ls 6 [(5, .int x3), (4, .int r2), (0, .ref sm), (1, .int a1), (2, .int a2), (3, .int (bI a3))] → va_P D vwCl (kX2 cI sm rg wa b7) H → va_D A (kX2 cI sm rg wa b7) → va_S A s.heap H locs → W p l e (headSpec wwX2_subtract rmX2_subtract).room s m ([.ref sm, .int a1, .int a2, .int (bI a3)] : List Value).toArray below meth c H locs 0 0 Q (F0 m 79 ls [.int (bI z16), .int (bI z13), .int (1 : Int32), .int (bI z10), .ref rg]) := by
          intro z16 eJ17 H locs ls hl hP hD hS
          have hf := hf.trans (kE1 (eJ17.trans hTJ17))
          refine kc_Vv (wr := [(sm, .inr (2, [.ref rg]))]) (As := [.int (bI z10), .int (bI true), .int (bI z13), .int (bI z16)]) (rest := []) (fun u9 => (kX2 cI sm rg wa u9)) ⟨hx, hb, hml, hown, hws⟩ hK hP hD hS hA hT (c_X1_setFlags l D cI rg wa H.size b7 z10 true z13 z16) (cwV 4 hws (gw_V mw_210 mw_211 mw_212 mw_32 mw_213) rfl rfl rfl hdX1_setFlags ⟨Nat.le_of_ble_eq_true rfl, Nat.le_of_ble_eq_true rfl⟩) [1, 2] [0] [0] [0, 1, 2] rfl rfl rfl rfl (by decide) rfl (fun _ => rfl) rfl 1 rfl rfl rfl rfl hl.1 rfl (Nat.le_of_ble_eq_true rfl) dX2_subtract_79 ⟨Nat.zero_le _, Nat.zero_le _⟩ (fun b18 H locs hw19 hP hD hS => ?_)
          have hP : va_P D vwCl (kX2 cI sm rg wa b18) H := hP
          have hD : va_D A (kX2 cI sm rg wa b18) := hD
          have hf := hf.trans (kE1 hw19)
          rw [← hQ]
          exact W.vret hx hb hr (fun t ht hW => ⟨⟨b18, rfl, hf.symm, by rw [ht]; exact hP, va_K.moved hW.alike hK, hD⟩, hS.F ht⟩) hS.2.2 dX2_subtract_82
        have hf := hTJ17
        refine lv_if_ge (tgt := 78) hx hb dX2_subtract_71 (by decide) (fun c15 => ?_) (fun c15 => ?_)
        · have hf := hf.trans (kt_le c15)
          refine lv_iconst (v := 0) hx hb dX2_subtract_78 (by decide) ?_
          exact J17 false hf.symm H locs ls (lv_sub hl [0, 1, 2, 3, 4, 5] rfl) hP hD hS
        · have hf := hf.trans (kf_le c15)
          refine lv_iconst (v := 1) hx hb dX2_subtract_74 (by decide) ?_
          refine lv_goto (tgt := 79) hx hb dX2_subtract_75 (by decide) ?_
          exact J17 true hf.symm H locs ls (lv_sub hl [0, 1, 2, 3, 4, 5] rfl) hP hD hS
      have hf := hTJ14
      refine lv_if_ge (tgt := 68) hx hb dX2_subtract_61 (by decide) (fun c12 => ?_) (fun c12 => ?_)
      · have hf := hf.trans (kt_le c12)
        refine lv_iconst (v := 0) hx hb dX2_subtract_68 (by decide) ?_
        exact J14 false hf.symm H locs ls (lv_sub hl [0, 1, 2, 3, 4, 5] rfl) hP hD hS
      · have hf := hf.trans (kf_le c12)
        refine lv_iconst (v := 1) hx hb dX2_subtract_64 (by decide) ?_
        refine lv_goto (tgt := 69) hx hb dX2_subtract_65 (by decide) ?_
        exact J14 true hf.symm H locs ls (lv_sub hl [0, 1, 2, 3, 4, 5] rfl) hP hD hS
    have hf := hTJ11
    refine lv_if_ne (tgt := 47) hx hb dX2_subtract_40 (by decide) (fun c9 => ?_) (fun c9 => ?_)
    · have hf := hf.trans (kf_eq c9)
      refine lv_iconst (v := 0) hx hb dX2_subtract_47 (by decide) ?_
      exact J11 false hf.symm H locs ls (lv_sub hl [0, 1, 2, 3, 4, 5] rfl) hP hD hS
    · have hf := hf.trans (kt_eq c9)
      refine lv_iconst (v := 1) hx hb dX2_subtract_43 (by decide) ?_
      refine lv_goto (tgt := 48) hx hb dX2_subtract_44 (by decide) ?_
      exact J11 true hf.symm H locs ls (lv_sub hl [0, 1, 2, 3, 4, 5] rfl) hP hD hS
  have hf := hTJ8
  refine lv_if_eq (tgt := 30) hx hb dX2_subtract_18 (by decide) (fun c4 => ?_) (fun c4 => ?_)
  · have hf := hf.trans (kt_eq c4)
    exact J8 v_wd hf.symm H locs ls (lv_sub hl [0, 1, 2, 3, 4, 5] rfl) hP hD hS
  · have hf := hf.trans (kf_eq c4)
    refine lv_aload_n hx hb dX2_subtract_21 rfl (lv_at hl 2 rfl) ?_
    refine va_get (D := D) (ci := 2) (v := .ref rg) (C := RX2) (T := TX2) (N := 1) hx hb hws inlX2 hown hK hP 0 rfl rfl 0 (by decide) (hws _ mw_33) (fun _ h9 => h9) rfl dX2_subtract_22 ?_
    refine lv_iload hx hb dX2_subtract_25 (lv_at hl 0 rfl) ?_
    refine kc_Vv (wr := [(sm, .inr (2, [.ref rg]))]) (As := [.int x3]) (rest := []) (fun u9 => (kX2 cI sm rg wa u9)) ⟨hx, hb, hml, hown, hws⟩ hK hP hD hS hA hT (c_X1_setA l D cI rg wa H.size v_wd x3) (cwV 1 hws (gw_V mw_296 mw_272 mw_273 mw_32 mw_274) rfl rfl rfl hdX1_setA ⟨Nat.le_of_ble_eq_true rfl, Nat.le_of_ble_eq_true rfl⟩) [1, 2] [0] [0] [0, 1, 2] rfl rfl rfl rfl (by decide) rfl (fun _ => rfl) rfl 1 rfl rfl rfl rfl hl.1 rfl (Nat.le_of_ble_eq_true rfl) dX2_subtract_27 ⟨Nat.zero_le _, Nat.zero_le _⟩ (fun b5 H locs hw6 hP hD hS => ?_)
    have hP : va_P D vwCl (kX2 cI sm rg wa b5) H := hP
    have hD : va_D A (kX2 cI sm rg wa b5) := hD
    have hf := hf.trans (kE1 hw6)
    exact J8 b5 hf.symm H locs ls (lv_sub hl [0, 1, 2, 3, 4, 5] rfl) hP hD hS
def fX2_putLogic (v_wd : Nat → Int32) (a1 : Int32) (a2 : Bool) : (Nat → Int32) := (kU1 (fX1_setA v_wd a1) (fun (b1 : Nat → Int32) => (kU1 (((kIf (kEq a1 (0 : Int32)) true false) : Bool)) (fun (z4 : Bool) => (kU1 (fX1_setFlags b1 z4 false a2 false) (fun (b6 : Nat → Int32) => b6))))))
def rmX2_putLogic : Room := { frames := 1, cells := 0, slots := 0, locals := 25 }
def wwX2_putLogic : List Cond := Cond.code yX2_putLogic cX2_putLogic 3 none :: wsL_law
theorem hdX2_putLogic : yX2_putLogic.cls = RX2 ∧ yX2_putLogic.cls ≠ "java/lang/invoke/MethodHandle" ∧ yX2_putLogic.cls ≠ "java/lang/invoke/VarHandle" ∧ (parseMethodDescriptor yX2_putLogic.desc).map (fun d => d.parameters.length) = some 2 := by decide +kernel
set_option maxHeartbeats 4000000 in
set_option maxRecDepth 100000 in
theorem c_X2_putLogic (l : Launch) (D : va_G) (cI : ClassId) (sm rg wa sz : Nat) (v_wd : Nat → Int32) (a1 : Int32) (a2 : Bool)  : Met l yX2_putLogic wwX2_putLogic rmX2_putLogic (va_Pc [.ref sm, .int a1, .int (bI a2)] (kp D (kX2 cI sm rg wa v_wd) [(cI, .int)] sz)) (va_Qv (fun (u9 : (Nat → Int32)) => u9 = fX2_putLogic v_wd a1 a2) (fun u9 t => kq D (kX2 cI sm rg wa u9) [(cI, .int)] (va_A (kX2 cI sm rg wa v_wd) sz) t) (va_A (kX2 cI sm rg wa v_wd) sz)) 0 0 (va_A (kX2 cI sm rg wa v_wd) sz) := by
  refine Met.ofW (cc := cX2_putLogic) (maxL := 3) (ret := none) (by decide) rfl ?_
  intro p e s m args below meth c s₁ B hml hv
  obtain ⟨rfl, hsz, hP, hK, hD0, hT⟩ := hv
  have hx := B.exec
  have hb := B.bytes
  have hr := B.returns
  have hts := atoms_spec (ws := wwX2_putLogic) B.pre
  have hws : ∀ w ∈ wsL_law, w.before _ s = true := fun w h => hts w (List.mem_cons_of_mem _ h)
  have hown : s.vm.findClass RX2 = some m.cls := findClass_of_methodNamed B.named
  have hlocks := B.notSynchronized
  subst hsz
  have hD := hD0.self (sz := s.heap.size)
  generalize hAe : va_A (kX2 cI sm rg wa v_wd) s.heap.size = A at hD hT ⊢
  have hA : ∀ q : Nat, s.heap.size ≤ q → A q := fun q h => by rw [← hAe]; exact Or.inr h
  have hS : va_S A s.heap s.heap [] := va_S.rf
  have hl := lv_entry ([.ref sm, .int a1, .int (bI a2)]) (n := 3) (Nat.le_of_ble_eq_true rfl)
  rw [lg_entry_eq]
  generalize (lg_sl ([.ref sm, .int a1, .int (bI a2)]) ++ List.replicate (3 - (lg_sl ([.ref sm, .int a1, .int (bI a2)])).length) Slot.unset).toArray = ls at hl ⊢
  have hl : lv_has ls 3 [(0, .ref sm), (1, .int a1), (2, .int (bI a2))] := hl
  generalize hQ : MQ _ _ _ _ _ _ _ = Q
  obtain ⟨H, hHe⟩ : ∃ H : Heap, H = s.heap := ⟨_, rfl⟩
  obtain ⟨locs, hle⟩ : ∃ L : List Loc, L = [] := ⟨_, rfl⟩
  have hP : va_P D vwCl (kX2 cI sm rg wa v_wd) H := by rw [hHe]; exact hP
  have hS : va_S A s.heap H locs := by rw [hHe, hle]; exact hS
  refine kw_start hHe.symm hle.symm ?_
  have hf : fX2_putLogic v_wd a1 a2 = fX2_putLogic v_wd a1 a2 := rfl
  refine lv_aload_n hx hb dX2_putLogic_0 rfl (lv_at hl 0 rfl) ?_
  refine va_get (D := D) (ci := 2) (v := .ref rg) (C := RX2) (T := TX2) (N := 1) hx hb hws inlX2 hown hK hP 0 rfl rfl 0 (by decide) (hws _ mw_33) (fun _ h9 => h9) rfl dX2_putLogic_1 ?_
  refine lv_iload_n hx hb dX2_putLogic_4 rfl (lv_at hl 1 rfl) ?_
  refine kc_Vv (wr := [(sm, .inr (2, [.ref rg]))]) (As := [.int a1]) (rest := []) (fun u9 => (kX2 cI sm rg wa u9)) ⟨hx, hb, hml, hown, hws⟩ hK hP hD hS hA hT (c_X1_setA l D cI rg wa H.size v_wd a1) (cwV 1 hws (gw_V mw_296 mw_272 mw_273 mw_32 mw_274) rfl rfl rfl hdX1_setA ⟨Nat.le_of_ble_eq_true rfl, Nat.le_of_ble_eq_true rfl⟩) [1, 2] [0] [0] [0, 1, 2] rfl rfl rfl rfl (by decide) rfl (fun _ => rfl) rfl 1 rfl rfl rfl rfl hl.1 rfl (Nat.le_of_ble_eq_true rfl) dX2_putLogic_5 ⟨Nat.zero_le _, Nat.zero_le _⟩ (fun b1 H locs hw2 hP hD hS => ?_)
  have hP : va_P D vwCl (kX2 cI sm rg wa b1) H := hP
  have hD : va_D A (kX2 cI sm rg wa b1) := hD
  have hf := hf.trans (kE1 hw2)
  refine lv_aload_n hx hb dX2_putLogic_8 rfl (lv_at hl 0 rfl) ?_
  refine va_get (D := D) (ci := 2) (v := .ref rg) (C := RX2) (T := TX2) (N := 1) hx hb hws inlX2 hown hK hP 0 rfl rfl 0 (by decide) (hws _ mw_33) (fun _ h9 => h9) rfl dX2_putLogic_9 ?_
  refine lv_iload_n hx hb dX2_putLogic_12 rfl (lv_at hl 1 rfl) ?_
  obtain ⟨TJ5, hTJ5⟩ : ∃ T9 : Bool, T9 = (kIf (kEq a1 (0 : Int32)) true false) := ⟨_, rfl⟩
  have J5 : ∀ (z4 : Bool), z4 = TJ5 → ∀ (H : Heap) (locs : List Loc) (ls : Array Slot), lv_has ls 3 [(0, .ref sm), (1, .int a1), (2, .int (bI a2))] → va_P D vwCl (kX2 cI sm rg wa b1) H → va_D A (kX2 cI sm rg wa b1) → va_S A s.heap H locs → W p l e (headSpec wwX2_putLogic rmX2_putLogic).room s m ([.ref sm, .int a1, .int (bI a2)] : List Value).toArray below meth c H locs 0 0 Q (F0 m 21 ls [.int (bI z4), .ref rg]) := by
    intro z4 eJ5 H locs ls hl hP hD hS
    have hf := hf.trans (kE1 (eJ5.trans hTJ5))
    refine lv_iconst (v := 0) hx hb dX2_putLogic_21 (by decide) ?_
    refine lv_iload_n hx hb dX2_putLogic_22 rfl (lv_at hl 2 rfl) ?_
    refine lv_iconst (v := 0) hx hb dX2_putLogic_23 (by decide) ?_
    refine kc_Vv (wr := [(sm, .inr (2, [.ref rg]))]) (As := [.int (bI z4), .int (bI false), .int (bI a2), .int (bI false)]) (rest := []) (fun u9 => (kX2 cI sm rg wa u9)) ⟨hx, hb, hml, hown, hws⟩ hK hP hD hS hA hT (c_X1_setFlags l D cI rg wa H.size b1 z4 false a2 false) (cwV 4 hws (gw_V mw_210 mw_211 mw_212 mw_32 mw_213) rfl rfl rfl hdX1_setFlags ⟨Nat.le_of_ble_eq_true rfl, Nat.le_of_ble_eq_true rfl⟩) [1, 2] [0] [0] [0, 1, 2] rfl rfl rfl rfl (by decide) rfl (fun _ => rfl) rfl 1 rfl rfl rfl rfl hl.1 rfl (Nat.le_of_ble_eq_true rfl) dX2_putLogic_24 ⟨Nat.zero_le _, Nat.zero_le _⟩ (fun b6 H locs hw7 hP hD hS => ?_)
    have hP : va_P D vwCl (kX2 cI sm rg wa b6) H := hP
    have hD : va_D A (kX2 cI sm rg wa b6) := hD
    have hf := hf.trans (kE1 hw7)
    rw [← hQ]
    exact W.vret hx hb hr (fun t ht hW => ⟨⟨b6, rfl, hf.symm, by rw [ht]; exact hP, va_K.moved hW.alike hK, hD⟩, hS.F ht⟩) hS.2.2 dX2_putLogic_27
  have hf := hTJ5
  refine lv_if_ne (tgt := 20) hx hb dX2_putLogic_13 (by decide) (fun c3 => ?_) (fun c3 => ?_)
  · have hf := hf.trans (kf_eq c3)
    refine lv_iconst (v := 0) hx hb dX2_putLogic_20 (by decide) ?_
    exact J5 false hf.symm H locs ls (lv_sub hl [0, 1, 2] rfl) hP hD hS
  · have hf := hf.trans (kt_eq c3)
    refine lv_iconst (v := 1) hx hb dX2_putLogic_16 (by decide) ?_
    refine lv_goto (tgt := 21) hx hb dX2_putLogic_17 (by decide) ?_
    exact J5 true hf.symm H locs ls (lv_sub hl [0, 1, 2] rfl) hP hD hS
def fX2_apply (v_wd : Nat → Int32) (a1 : Int32) (a2 : Int32) : (Nat → Int32) := (kU1 (fX1_flag v_wd (16 : Int32)) (fun (z3 : Bool) => (kU1 (((kIf (kEq (bI z3) (0 : Int32)) false true) : Bool)) (fun (z5 : Bool) => (kIf (kEq a1 (0 : Int32)) (kU1 (fX2_add v_wd a2 (0 : Int32)) (fun (b8 : Nat → Int32) => b8)) (kIf (kEq a1 (1 : Int32)) (kU1 (fX2_add v_wd a2 (bI z5)) (fun (b11 : Nat → Int32) => b11)) (kIf (kEq a1 (2 : Int32)) (kU1 (((kIf (kEq a1 (7 : Int32)) false true) : Bool)) (fun (z15 : Bool) => (kU1 (fX2_subtract v_wd a2 (0 : Int32) z15) (fun (b17 : Nat → Int32) => b17)))) (kIf (kEq a1 (3 : Int32)) (kU1 (fX2_subtract v_wd a2 (bI z5) true) (fun (b20 : Nat → Int32) => b20)) (kIf (kEq a1 (4 : Int32)) (kU1 (fX1_a v_wd) (fun (r24 : Int32) => (kU1 (fX2_putLogic v_wd (r24 &&& a2) true) (fun (b25 : Nat → Int32) => b25)))) (kIf (kEq a1 (5 : Int32)) (kU1 (fX1_a v_wd) (fun (r29 : Int32) => (kU1 (fX2_putLogic v_wd (r29 ^^^ a2) false) (fun (b30 : Nat → Int32) => b30)))) (kIf (kEq a1 (6 : Int32)) (kU1 (fX1_a v_wd) (fun (r34 : Int32) => (kU1 (fX2_putLogic v_wd (r34 ||| a2) false) (fun (b35 : Nat → Int32) => b35)))) (kIf (kEq a1 (7 : Int32)) (kU1 (((kIf (kEq a1 (7 : Int32)) false true) : Bool)) (fun (z39 : Bool) => (kU1 (fX2_subtract v_wd a2 (0 : Int32) z39) (fun (b41 : Nat → Int32) => b41)))) (kU1 (fX1_a v_wd) (fun (r44 : Int32) => (kU1 (fX2_putLogic v_wd (r44 ||| a2) false) (fun (b45 : Nat → Int32) => b45))))))))))))))))
def rmX2_apply : Room := { frames := 2, cells := 0, slots := 0, locals := 50 }
def wwX2_apply : List Cond := Cond.code yX2_apply cX2_apply 4 none :: wsL_law
theorem hdX2_apply : yX2_apply.cls = RX2 ∧ yX2_apply.cls ≠ "java/lang/invoke/MethodHandle" ∧ yX2_apply.cls ≠ "java/lang/invoke/VarHandle" ∧ (parseMethodDescriptor yX2_apply.desc).map (fun d => d.parameters.length) = some 2 := by decide +kernel
set_option maxHeartbeats 4000000 in
set_option maxRecDepth 100000 in
theorem c_X2_apply (l : Launch) (D : va_G) (cI : ClassId) (sm rg wa sz : Nat) (v_wd : Nat → Int32) (a1 : Int32) (a2 : Int32)  : Met l yX2_apply wwX2_apply rmX2_apply (va_Pc [.ref sm, .int a1, .int a2] (kp D (kX2 cI sm rg wa v_wd) [(cI, .int)] sz)) (va_Qv (fun (u9 : (Nat → Int32)) => u9 = fX2_apply v_wd a1 a2) (fun u9 t => kq D (kX2 cI sm rg wa u9) [(cI, .int)] (va_A (kX2 cI sm rg wa v_wd) sz) t) (va_A (kX2 cI sm rg wa v_wd) sz)) 0 0 (va_A (kX2 cI sm rg wa v_wd) sz) := by
  refine Met.ofW (cc := cX2_apply) (maxL := 4) (ret := none) (by decide) rfl ?_
  intro p e s m args below meth c s₁ B hml hv
  obtain ⟨rfl, hsz, hP, hK, hD0, hT⟩ := hv
  have hx := B.exec
  have hb := B.bytes
  have hr := B.returns
  have hts := atoms_spec (ws := wwX2_apply) B.pre
  have hws : ∀ w ∈ wsL_law, w.before _ s = true := fun w h => hts w (List.mem_cons_of_mem _ h)
  have hown : s.vm.findClass RX2 = some m.cls := findClass_of_methodNamed B.named
  have hlocks := B.notSynchronized
  subst hsz
  have hD := hD0.self (sz := s.heap.size)
  generalize hAe : va_A (kX2 cI sm rg wa v_wd) s.heap.size = A at hD hT ⊢
  have hA : ∀ q : Nat, s.heap.size ≤ q → A q := fun q h => by rw [← hAe]; exact Or.inr h
  have hS : va_S A s.heap s.heap [] := va_S.rf
  have hl := lv_entry ([.ref sm, .int a1, .int a2]) (n := 4) (Nat.le_of_ble_eq_true rfl)
  rw [lg_entry_eq]
  generalize (lg_sl ([.ref sm, .int a1, .int a2]) ++ List.replicate (4 - (lg_sl ([.ref sm, .int a1, .int a2])).length) Slot.unset).toArray = ls at hl ⊢
  have hl : lv_has ls 4 [(0, .ref sm), (1, .int a1), (2, .int a2)] := hl
  generalize hQ : MQ _ _ _ _ _ _ _ = Q
  obtain ⟨H, hHe⟩ : ∃ H : Heap, H = s.heap := ⟨_, rfl⟩
  obtain ⟨locs, hle⟩ : ∃ L : List Loc, L = [] := ⟨_, rfl⟩
  have hP : va_P D vwCl (kX2 cI sm rg wa v_wd) H := by rw [hHe]; exact hP
  have hS : va_S A s.heap H locs := by rw [hHe, hle]; exact hS
  refine kw_start hHe.symm hle.symm ?_
  have hf : fX2_apply v_wd a1 a2 = fX2_apply v_wd a1 a2 := rfl
  refine lv_aload_n hx hb dX2_apply_0 rfl (lv_at hl 0 rfl) ?_
  refine va_get (D := D) (ci := 2) (v := .ref rg) (C := RX2) (T := TX2) (N := 1) hx hb hws inlX2 hown hK hP 0 rfl rfl 0 (by decide) (hws _ mw_33) (fun _ h9 => h9) rfl dX2_apply_1 ?_
  refine lv_bipush (v := 16) hx hb dX2_apply_4 (by decide) ?_
  refine kc_Vi (wr := [(sm, .inr (2, [.ref rg]))]) (As := [.int (16 : Int32)]) (rest := []) (fun _ => (kX2 cI sm rg wa v_wd)) ⟨hx, hb, hml, hown, hws⟩ hK hP hD hS hA hT (c_X1_flag l D cI rg wa H.size v_wd (16 : Int32)) (cwV 1 hws (gw_V mw_203 mw_204 mw_205 mw_32 mw_206) rfl rfl rfl hdX1_flag ⟨Nat.le_of_ble_eq_true rfl, Nat.le_of_ble_eq_true rfl⟩) [1, 2] [0] [0] [0, 1, 2] rfl rfl rfl rfl (by decide) rfl (fun _ => rfl) rfl 1 rfl rfl rfl rfl hl.1 rfl (Nat.le_of_ble_eq_true rfl) dX2_apply_6 ⟨Nat.zero_le _, Nat.zero_le _⟩ (fun r2 _ H locs hw1 hP hD hS => ?_)
  obtain ⟨z3, rfl, hw1⟩ := hw1
  have hP : va_P D vwCl (kX2 cI sm rg wa v_wd) H := hP
  have hD : va_D A (kX2 cI sm rg wa v_wd) := hD
  have hf := hf.trans (kE1 hw1)
  obtain ⟨TJ6, hTJ6⟩ : ∃ T9 : Bool, T9 = (kIf (kEq (bI z3) (0 : Int32)) false true) := ⟨_, rfl⟩
  have J6 : ∀ (z5 : Bool), z5 = TJ6 → ∀ (H : Heap) (locs : List Loc) (ls : Array Slot), lv_has ls 4 [(0, .ref sm), (1, .int a1), (2, .int a2)] → va_P D vwCl (kX2 cI sm rg wa v_wd) H → va_D A (kX2 cI sm rg wa v_wd) → va_S A s.heap H locs → W p l e (headSpec wwX2_apply rmX2_apply).room s m ([.ref sm, .int a1, .int a2] : List Value).toArray below meth c H locs 0 0 Q (F0 m 17 ls [.int (bI z5)]) := by
    intro z5 eJ6 H locs ls hl hP hD hS
    have hf := hf.trans (kE1 (eJ6.trans hTJ6))
    refine lv_istore_n (lv' := [(3, .int (bI z5)), (0, .ref sm), (1, .int a1), (2, .int a2)]) hx hb dX2_apply_17 rfl hl (by decide) rfl (fun ls hl => ?_)
    refine lv_iload_n hx hb dX2_apply_18 rfl (lv_at hl 2 rfl) ?_
    by_cases c7 : a1 = (0 : Int32)
    · have hf := hf.trans (kt_eq c7)
      refine lv_tableIn (off := 45) (tgt := 64) hx hb dX2_apply_19 (by rw [c7]; decide) (by rw [c7]; decide) (by rw [c7]; decide) (by decide) ?_
      refine lv_aload_n hx hb dX2_apply_64 rfl (lv_at hl 1 rfl) ?_
      refine lv_iload_n hx hb dX2_apply_65 rfl (lv_at hl 3 rfl) ?_
      refine lv_iconst (v := 0) hx hb dX2_apply_66 (by decide) ?_
      refine kc_Vv (wr := []) (As := [.int a2, .int (0 : Int32)]) (rest := []) (fun u9 => (kX2 cI sm rg wa u9)) ⟨hx, hb, hml, hown, hws⟩ hK hP hD hS hA hT (c_X2_add l D cI sm rg wa H.size v_wd a2 (0 : Int32)) (cwV 2 hws (gw_V mw_302 mw_303 mw_304 mw_18 mw_305) rfl rfl rfl hdX2_add ⟨Nat.le_of_ble_eq_true rfl, Nat.le_of_ble_eq_true rfl⟩) [0, 1, 2] [] [0] [0, 1, 2] rfl rfl rfl rfl (by decide) rfl (fun _ => rfl) rfl 0 rfl rfl rfl rfl hl.1 rfl (Nat.le_of_ble_eq_true rfl) dX2_apply_67 ⟨Nat.zero_le _, Nat.zero_le _⟩ (fun b8 H locs hw9 hP hD hS => ?_)
      have hP : va_P D vwCl (kX2 cI sm rg wa b8) H := hP
      have hD : va_D A (kX2 cI sm rg wa b8) := hD
      have hf := hf.trans (kE1 hw9)
      refine lv_goto (tgt := 160) hx hb dX2_apply_70 (by decide) ?_
      rw [← hQ]
      exact W.vret hx hb hr (fun t ht hW => ⟨⟨b8, rfl, hf.symm, by rw [ht]; exact hP, va_K.moved hW.alike hK, hD⟩, hS.F ht⟩) hS.2.2 dX2_apply_160
    · have hf := hf.trans (kf_eq c7)
      by_cases c10 : a1 = (1 : Int32)
      · have hf := hf.trans (kt_eq c10)
        refine lv_tableIn (off := 54) (tgt := 73) hx hb dX2_apply_19 (by rw [c10]; decide) (by rw [c10]; decide) (by rw [c10]; decide) (by decide) ?_
        refine lv_aload_n hx hb dX2_apply_73 rfl (lv_at hl 1 rfl) ?_
        refine lv_iload_n hx hb dX2_apply_74 rfl (lv_at hl 3 rfl) ?_
        refine lv_iload_n hx hb dX2_apply_75 rfl (lv_at hl 0 rfl) ?_
        refine kc_Vv (wr := []) (As := [.int a2, .int (bI z5)]) (rest := []) (fun u9 => (kX2 cI sm rg wa u9)) ⟨hx, hb, hml, hown, hws⟩ hK hP hD hS hA hT (c_X2_add l D cI sm rg wa H.size v_wd a2 (bI z5)) (cwV 2 hws (gw_V mw_302 mw_303 mw_304 mw_18 mw_305) rfl rfl rfl hdX2_add ⟨Nat.le_of_ble_eq_true rfl, Nat.le_of_ble_eq_true rfl⟩) [0, 1, 2] [] [0] [0, 1, 2] rfl rfl rfl rfl (by decide) rfl (fun _ => rfl) rfl 0 rfl rfl rfl rfl hl.1 rfl (Nat.le_of_ble_eq_true rfl) dX2_apply_76 ⟨Nat.zero_le _, Nat.zero_le _⟩ (fun b11 H locs hw12 hP hD hS => ?_)
        have hP : va_P D vwCl (kX2 cI sm rg wa b11) H := hP
        have hD : va_D A (kX2 cI sm rg wa b11) := hD
        have hf := hf.trans (kE1 hw12)
        refine lv_goto (tgt := 160) hx hb dX2_apply_79 (by decide) ?_
        rw [← hQ]
        exact W.vret hx hb hr (fun t ht hW => ⟨⟨b11, rfl, hf.symm, by rw [ht]; exact hP, va_K.moved hW.alike hK, hD⟩, hS.F ht⟩) hS.2.2 dX2_apply_160
      · have hf := hf.trans (kf_eq c10)
        by_cases c13 : a1 = (2 : Int32)
        · have hf := hf.trans (kt_eq c13)
          refine lv_tableIn (off := 63) (tgt := 82) hx hb dX2_apply_19 (by rw [c13]; decide) (by rw [c13]; decide) (by rw [c13]; decide) (by decide) ?_
          refine lv_aload_n hx hb dX2_apply_82 rfl (lv_at hl 1 rfl) ?_
          refine lv_iload_n hx hb dX2_apply_83 rfl (lv_at hl 3 rfl) ?_
          refine lv_iconst (v := 0) hx hb dX2_apply_84 (by decide) ?_
          refine lv_iload_n hx hb dX2_apply_85 rfl (lv_at hl 2 rfl) ?_
          refine lv_bipush (v := 7) hx hb dX2_apply_86 (by decide) ?_
          obtain ⟨TJ16, hTJ16⟩ : ∃ T9 : Bool, T9 = (kIf (kEq a1 (7 : Int32)) false true) := ⟨_, rfl⟩
          have J16 : ∀ (z15 : Bool), z15 = TJ16 → ∀ (H : Heap) (locs : List Loc) (ls : Array Slot), lv_has ls 4 [(3, .int (bI z5)), (0, .ref sm), (1, .int a1), (2, .int a2)] → va_P D vwCl (kX2 cI sm rg wa v_wd) H → va_D A (kX2 cI sm rg wa v_wd) → va_S A s.heap H locs → W p l e (headSpec wwX2_apply rmX2_apply).room s m ([.ref sm, .int a1, .int a2] : List Value).toArray below meth c H locs 0 0 Q (F0 m 96 ls [.int (bI z15), .int (0 : Int32), .int a2, .ref sm]) := by
            intro z15 eJ16 H locs ls hl hP hD hS
            have hf := hf.trans (kE1 (eJ16.trans hTJ16))
            refine kc_Vv (wr := []) (As := [.int a2, .int (0 : Int32), .int (bI z15)]) (rest := []) (fun u9 => (kX2 cI sm rg wa u9)) ⟨hx, hb, hml, hown, hws⟩ hK hP hD hS hA hT (c_X2_subtract l D cI sm rg wa H.size v_wd a2 (0 : Int32) z15) (cwV 3 hws (gw_V mw_306 mw_307 mw_308 mw_18 mw_309) rfl rfl rfl hdX2_subtract ⟨Nat.le_of_ble_eq_true rfl, Nat.le_of_ble_eq_true rfl⟩) [0, 1, 2] [] [0] [0, 1, 2] rfl rfl rfl rfl (by decide) rfl (fun _ => rfl) rfl 0 rfl rfl rfl rfl hl.1 rfl (Nat.le_of_ble_eq_true rfl) dX2_apply_96 ⟨Nat.zero_le _, Nat.zero_le _⟩ (fun b17 H locs hw18 hP hD hS => ?_)
            have hP : va_P D vwCl (kX2 cI sm rg wa b17) H := hP
            have hD : va_D A (kX2 cI sm rg wa b17) := hD
            have hf := hf.trans (kE1 hw18)
            refine lv_goto (tgt := 160) hx hb dX2_apply_99 (by decide) ?_
            rw [← hQ]
            exact W.vret hx hb hr (fun t ht hW => ⟨⟨b17, rfl, hf.symm, by rw [ht]; exact hP, va_K.moved hW.alike hK, hD⟩, hS.F ht⟩) hS.2.2 dX2_apply_160
          have hf := hTJ16
          refine lv_icmp_eq (tgt := 95) hx hb dX2_apply_88 (by decide) (fun c14 => ?_) (fun c14 => ?_)
          · have hf := hf.trans (kt_eq c14)
            refine lv_iconst (v := 0) hx hb dX2_apply_95 (by decide) ?_
            exact J16 false hf.symm H locs ls (lv_sub hl [0, 1, 2, 3] rfl) hP hD hS
          · have hf := hf.trans (kf_eq c14)
            refine lv_iconst (v := 1) hx hb dX2_apply_91 (by decide) ?_
            refine lv_goto (tgt := 96) hx hb dX2_apply_92 (by decide) ?_
            exact J16 true hf.symm H locs ls (lv_sub hl [0, 1, 2, 3] rfl) hP hD hS
        · have hf := hf.trans (kf_eq c13)
          by_cases c19 : a1 = (3 : Int32)
          · have hf := hf.trans (kt_eq c19)
            refine lv_tableIn (off := 83) (tgt := 102) hx hb dX2_apply_19 (by rw [c19]; decide) (by rw [c19]; decide) (by rw [c19]; decide) (by decide) ?_
            refine lv_aload_n hx hb dX2_apply_102 rfl (lv_at hl 1 rfl) ?_
            refine lv_iload_n hx hb dX2_apply_103 rfl (lv_at hl 3 rfl) ?_
            refine lv_iload_n hx hb dX2_apply_104 rfl (lv_at hl 0 rfl) ?_
            refine lv_iconst (v := 1) hx hb dX2_apply_105 (by decide) ?_
            refine kc_Vv (wr := []) (As := [.int a2, .int (bI z5), .int (bI true)]) (rest := []) (fun u9 => (kX2 cI sm rg wa u9)) ⟨hx, hb, hml, hown, hws⟩ hK hP hD hS hA hT (c_X2_subtract l D cI sm rg wa H.size v_wd a2 (bI z5) true) (cwV 3 hws (gw_V mw_306 mw_307 mw_308 mw_18 mw_309) rfl rfl rfl hdX2_subtract ⟨Nat.le_of_ble_eq_true rfl, Nat.le_of_ble_eq_true rfl⟩) [0, 1, 2] [] [0] [0, 1, 2] rfl rfl rfl rfl (by decide) rfl (fun _ => rfl) rfl 0 rfl rfl rfl rfl hl.1 rfl (Nat.le_of_ble_eq_true rfl) dX2_apply_106 ⟨Nat.zero_le _, Nat.zero_le _⟩ (fun b20 H locs hw21 hP hD hS => ?_)
            have hP : va_P D vwCl (kX2 cI sm rg wa b20) H := hP
            have hD : va_D A (kX2 cI sm rg wa b20) := hD
            have hf := hf.trans (kE1 hw21)
            refine lv_goto (tgt := 160) hx hb dX2_apply_109 (by decide) ?_
            rw [← hQ]
            exact W.vret hx hb hr (fun t ht hW => ⟨⟨b20, rfl, hf.symm, by rw [ht]; exact hP, va_K.moved hW.alike hK, hD⟩, hS.F ht⟩) hS.2.2 dX2_apply_160
          · have hf := hf.trans (kf_eq c19)
            by_cases c22 : a1 = (4 : Int32)
            · have hf := hf.trans (kt_eq c22)
              refine lv_tableIn (off := 93) (tgt := 112) hx hb dX2_apply_19 (by rw [c22]; decide) (by rw [c22]; decide) (by rw [c22]; decide) (by decide) ?_
              refine lv_aload_n hx hb dX2_apply_112 rfl (lv_at hl 1 rfl) ?_
              refine lv_aload_n hx hb dX2_apply_113 rfl (lv_at hl 1 rfl) ?_
              refine va_get (D := D) (ci := 2) (v := .ref rg) (C := RX2) (T := TX2) (N := 1) hx hb hws inlX2 hown hK hP 0 rfl rfl 0 (by decide) (hws _ mw_33) (fun _ h9 => h9) rfl dX2_apply_114 ?_
              refine kc_Vi (wr := [(sm, .inr (2, [.ref rg]))]) (As := []) (rest := [.ref sm]) (fun _ => (kX2 cI sm rg wa v_wd)) ⟨hx, hb, hml, hown, hws⟩ hK hP hD hS hA hT (c_X1_a l D cI rg wa H.size v_wd ) (cwV 0 hws (gw_V mw_295 mw_268 mw_269 mw_32 mw_270) rfl rfl rfl hdX1_a ⟨Nat.le_of_ble_eq_true rfl, Nat.le_of_ble_eq_true rfl⟩) [1, 2] [0] [0] [0, 1, 2] rfl rfl rfl rfl (by decide) rfl (fun _ => rfl) rfl 1 rfl rfl rfl rfl hl.1 rfl (Nat.le_of_ble_eq_true rfl) dX2_apply_117 ⟨Nat.zero_le _, Nat.zero_le _⟩ (fun r24 _ H locs hw23 hP hD hS => ?_)
              have hP : va_P D vwCl (kX2 cI sm rg wa v_wd) H := hP
              have hD : va_D A (kX2 cI sm rg wa v_wd) := hD
              have hf := hf.trans (kE1 hw23)
              refine lv_iload_n hx hb dX2_apply_120 rfl (lv_at hl 3 rfl) ?_
              refine lv_iand hx hb dX2_apply_121 ?_
              refine lv_iconst (v := 1) hx hb dX2_apply_122 (by decide) ?_
              refine kc_Vv (wr := []) (As := [.int (r24 &&& a2), .int (bI true)]) (rest := []) (fun u9 => (kX2 cI sm rg wa u9)) ⟨hx, hb, hml, hown, hws⟩ hK hP hD hS hA hT (c_X2_putLogic l D cI sm rg wa H.size v_wd (r24 &&& a2) true) (cwV 2 hws (gw_V mw_310 mw_311 mw_312 mw_18 mw_313) rfl rfl rfl hdX2_putLogic ⟨Nat.le_of_ble_eq_true rfl, Nat.le_of_ble_eq_true rfl⟩) [0, 1, 2] [] [0] [0, 1, 2] rfl rfl rfl rfl (by decide) rfl (fun _ => rfl) rfl 0 rfl rfl rfl rfl hl.1 rfl (Nat.le_of_ble_eq_true rfl) dX2_apply_123 ⟨Nat.zero_le _, Nat.zero_le _⟩ (fun b25 H locs hw26 hP hD hS => ?_)
              have hP : va_P D vwCl (kX2 cI sm rg wa b25) H := hP
              have hD : va_D A (kX2 cI sm rg wa b25) := hD
              have hf := hf.trans (kE1 hw26)
              refine lv_goto (tgt := 160) hx hb dX2_apply_126 (by decide) ?_
              rw [← hQ]
              exact W.vret hx hb hr (fun t ht hW => ⟨⟨b25, rfl, hf.symm, by rw [ht]; exact hP, va_K.moved hW.alike hK, hD⟩, hS.F ht⟩) hS.2.2 dX2_apply_160
            · have hf := hf.trans (kf_eq c22)
              by_cases c27 : a1 = (5 : Int32)
              · have hf := hf.trans (kt_eq c27)
                refine lv_tableIn (off := 110) (tgt := 129) hx hb dX2_apply_19 (by rw [c27]; decide) (by rw [c27]; decide) (by rw [c27]; decide) (by decide) ?_
                refine lv_aload_n hx hb dX2_apply_129 rfl (lv_at hl 1 rfl) ?_
                refine lv_aload_n hx hb dX2_apply_130 rfl (lv_at hl 1 rfl) ?_
                refine va_get (D := D) (ci := 2) (v := .ref rg) (C := RX2) (T := TX2) (N := 1) hx hb hws inlX2 hown hK hP 0 rfl rfl 0 (by decide) (hws _ mw_33) (fun _ h9 => h9) rfl dX2_apply_131 ?_
                refine kc_Vi (wr := [(sm, .inr (2, [.ref rg]))]) (As := []) (rest := [.ref sm]) (fun _ => (kX2 cI sm rg wa v_wd)) ⟨hx, hb, hml, hown, hws⟩ hK hP hD hS hA hT (c_X1_a l D cI rg wa H.size v_wd ) (cwV 0 hws (gw_V mw_295 mw_268 mw_269 mw_32 mw_270) rfl rfl rfl hdX1_a ⟨Nat.le_of_ble_eq_true rfl, Nat.le_of_ble_eq_true rfl⟩) [1, 2] [0] [0] [0, 1, 2] rfl rfl rfl rfl (by decide) rfl (fun _ => rfl) rfl 1 rfl rfl rfl rfl hl.1 rfl (Nat.le_of_ble_eq_true rfl) dX2_apply_134 ⟨Nat.zero_le _, Nat.zero_le _⟩ (fun r29 _ H locs hw28 hP hD hS => ?_)
                have hP : va_P D vwCl (kX2 cI sm rg wa v_wd) H := hP
                have hD : va_D A (kX2 cI sm rg wa v_wd) := hD
                have hf := hf.trans (kE1 hw28)
                refine lv_iload_n hx hb dX2_apply_137 rfl (lv_at hl 3 rfl) ?_
                refine lv_ixor hx hb dX2_apply_138 ?_
                refine lv_iconst (v := 0) hx hb dX2_apply_139 (by decide) ?_
                refine kc_Vv (wr := []) (As := [.int (r29 ^^^ a2), .int (bI false)]) (rest := []) (fun u9 => (kX2 cI sm rg wa u9)) ⟨hx, hb, hml, hown, hws⟩ hK hP hD hS hA hT (c_X2_putLogic l D cI sm rg wa H.size v_wd (r29 ^^^ a2) false) (cwV 2 hws (gw_V mw_310 mw_311 mw_312 mw_18 mw_313) rfl rfl rfl hdX2_putLogic ⟨Nat.le_of_ble_eq_true rfl, Nat.le_of_ble_eq_true rfl⟩) [0, 1, 2] [] [0] [0, 1, 2] rfl rfl rfl rfl (by decide) rfl (fun _ => rfl) rfl 0 rfl rfl rfl rfl hl.1 rfl (Nat.le_of_ble_eq_true rfl) dX2_apply_140 ⟨Nat.zero_le _, Nat.zero_le _⟩ (fun b30 H locs hw31 hP hD hS => ?_)
                have hP : va_P D vwCl (kX2 cI sm rg wa b30) H := hP
                have hD : va_D A (kX2 cI sm rg wa b30) := hD
                have hf := hf.trans (kE1 hw31)
                refine lv_goto (tgt := 160) hx hb dX2_apply_143 (by decide) ?_
                rw [← hQ]
                exact W.vret hx hb hr (fun t ht hW => ⟨⟨b30, rfl, hf.symm, by rw [ht]; exact hP, va_K.moved hW.alike hK, hD⟩, hS.F ht⟩) hS.2.2 dX2_apply_160
              · have hf := hf.trans (kf_eq c27)
                by_cases c32 : a1 = (6 : Int32)
                · have hf := hf.trans (kt_eq c32)
                  refine lv_tableIn (off := 127) (tgt := 146) hx hb dX2_apply_19 (by rw [c32]; decide) (by rw [c32]; decide) (by rw [c32]; decide) (by decide) ?_
                  refine lv_aload_n hx hb dX2_apply_146 rfl (lv_at hl 1 rfl) ?_
                  refine lv_aload_n hx hb dX2_apply_147 rfl (lv_at hl 1 rfl) ?_
                  refine va_get (D := D) (ci := 2) (v := .ref rg) (C := RX2) (T := TX2) (N := 1) hx hb hws inlX2 hown hK hP 0 rfl rfl 0 (by decide) (hws _ mw_33) (fun _ h9 => h9) rfl dX2_apply_148 ?_
                  refine kc_Vi (wr := [(sm, .inr (2, [.ref rg]))]) (As := []) (rest := [.ref sm]) (fun _ => (kX2 cI sm rg wa v_wd)) ⟨hx, hb, hml, hown, hws⟩ hK hP hD hS hA hT (c_X1_a l D cI rg wa H.size v_wd ) (cwV 0 hws (gw_V mw_295 mw_268 mw_269 mw_32 mw_270) rfl rfl rfl hdX1_a ⟨Nat.le_of_ble_eq_true rfl, Nat.le_of_ble_eq_true rfl⟩) [1, 2] [0] [0] [0, 1, 2] rfl rfl rfl rfl (by decide) rfl (fun _ => rfl) rfl 1 rfl rfl rfl rfl hl.1 rfl (Nat.le_of_ble_eq_true rfl) dX2_apply_151 ⟨Nat.zero_le _, Nat.zero_le _⟩ (fun r34 _ H locs hw33 hP hD hS => ?_)
                  have hP : va_P D vwCl (kX2 cI sm rg wa v_wd) H := hP
                  have hD : va_D A (kX2 cI sm rg wa v_wd) := hD
                  have hf := hf.trans (kE1 hw33)
                  refine lv_iload_n hx hb dX2_apply_154 rfl (lv_at hl 3 rfl) ?_
                  refine lv_ior hx hb dX2_apply_155 ?_
                  refine lv_iconst (v := 0) hx hb dX2_apply_156 (by decide) ?_
                  refine kc_Vv (wr := []) (As := [.int (r34 ||| a2), .int (bI false)]) (rest := []) (fun u9 => (kX2 cI sm rg wa u9)) ⟨hx, hb, hml, hown, hws⟩ hK hP hD hS hA hT (c_X2_putLogic l D cI sm rg wa H.size v_wd (r34 ||| a2) false) (cwV 2 hws (gw_V mw_310 mw_311 mw_312 mw_18 mw_313) rfl rfl rfl hdX2_putLogic ⟨Nat.le_of_ble_eq_true rfl, Nat.le_of_ble_eq_true rfl⟩) [0, 1, 2] [] [0] [0, 1, 2] rfl rfl rfl rfl (by decide) rfl (fun _ => rfl) rfl 0 rfl rfl rfl rfl hl.1 rfl (Nat.le_of_ble_eq_true rfl) dX2_apply_157 ⟨Nat.zero_le _, Nat.zero_le _⟩ (fun b35 H locs hw36 hP hD hS => ?_)
                  have hP : va_P D vwCl (kX2 cI sm rg wa b35) H := hP
                  have hD : va_D A (kX2 cI sm rg wa b35) := hD
                  have hf := hf.trans (kE1 hw36)
                  rw [← hQ]
                  exact W.vret hx hb hr (fun t ht hW => ⟨⟨b35, rfl, hf.symm, by rw [ht]; exact hP, va_K.moved hW.alike hK, hD⟩, hS.F ht⟩) hS.2.2 dX2_apply_160
                · have hf := hf.trans (kf_eq c32)
                  by_cases c37 : a1 = (7 : Int32)
                  · have hf := hf.trans (kt_eq c37)
                    refine lv_tableIn (off := 63) (tgt := 82) hx hb dX2_apply_19 (by rw [c37]; decide) (by rw [c37]; decide) (by rw [c37]; decide) (by decide) ?_
                    refine lv_aload_n hx hb dX2_apply_82 rfl (lv_at hl 1 rfl) ?_
                    refine lv_iload_n hx hb dX2_apply_83 rfl (lv_at hl 3 rfl) ?_
                    refine lv_iconst (v := 0) hx hb dX2_apply_84 (by decide) ?_
                    refine lv_iload_n hx hb dX2_apply_85 rfl (lv_at hl 2 rfl) ?_
                    refine lv_bipush (v := 7) hx hb dX2_apply_86 (by decide) ?_
                    obtain ⟨TJ40, hTJ40⟩ : ∃ T9 : Bool, T9 = (kIf (kEq a1 (7 : Int32)) false true) := ⟨_, rfl⟩
                    have J40 : ∀ (z39 : Bool), z39 = TJ40 → ∀ (H : Heap) (locs : List Loc) (ls : Array Slot), lv_has ls 4 [(3, .int (bI z5)), (0, .ref sm), (1, .int a1), (2, .int a2)] → va_P D vwCl (kX2 cI sm rg wa v_wd) H → va_D A (kX2 cI sm rg wa v_wd) → va_S A s.heap H locs → W p l e (headSpec wwX2_apply rmX2_apply).room s m ([.ref sm, .int a1, .int a2] : List Value).toArray below meth c H locs 0 0 Q (F0 m 96 ls [.int (bI z39), .int (0 : Int32), .int a2, .ref sm]) := by
                      intro z39 eJ40 H locs ls hl hP hD hS
                      have hf := hf.trans (kE1 (eJ40.trans hTJ40))
                      refine kc_Vv (wr := []) (As := [.int a2, .int (0 : Int32), .int (bI z39)]) (rest := []) (fun u9 => (kX2 cI sm rg wa u9)) ⟨hx, hb, hml, hown, hws⟩ hK hP hD hS hA hT (c_X2_subtract l D cI sm rg wa H.size v_wd a2 (0 : Int32) z39) (cwV 3 hws (gw_V mw_306 mw_307 mw_308 mw_18 mw_309) rfl rfl rfl hdX2_subtract ⟨Nat.le_of_ble_eq_true rfl, Nat.le_of_ble_eq_true rfl⟩) [0, 1, 2] [] [0] [0, 1, 2] rfl rfl rfl rfl (by decide) rfl (fun _ => rfl) rfl 0 rfl rfl rfl rfl hl.1 rfl (Nat.le_of_ble_eq_true rfl) dX2_apply_96 ⟨Nat.zero_le _, Nat.zero_le _⟩ (fun b41 H locs hw42 hP hD hS => ?_)
                      have hP : va_P D vwCl (kX2 cI sm rg wa b41) H := hP
                      have hD : va_D A (kX2 cI sm rg wa b41) := hD
                      have hf := hf.trans (kE1 hw42)
                      refine lv_goto (tgt := 160) hx hb dX2_apply_99 (by decide) ?_
                      rw [← hQ]
                      exact W.vret hx hb hr (fun t ht hW => ⟨⟨b41, rfl, hf.symm, by rw [ht]; exact hP, va_K.moved hW.alike hK, hD⟩, hS.F ht⟩) hS.2.2 dX2_apply_160
                    have hf := hTJ40
                    refine lv_icmp_eq (tgt := 95) hx hb dX2_apply_88 (by decide) (fun c38 => ?_) (fun c38 => ?_)
                    · have hf := hf.trans (kt_eq c38)
                      refine lv_iconst (v := 0) hx hb dX2_apply_95 (by decide) ?_
                      exact J40 false hf.symm H locs ls (lv_sub hl [0, 1, 2, 3] rfl) hP hD hS
                    · have hf := hf.trans (kf_eq c38)
                      refine lv_iconst (v := 1) hx hb dX2_apply_91 (by decide) ?_
                      refine lv_goto (tgt := 96) hx hb dX2_apply_92 (by decide) ?_
                      exact J40 true hf.symm H locs ls (lv_sub hl [0, 1, 2, 3] rfl) hP hD hS
                  · have hf := hf.trans (kf_eq c37)
                    refine lv_tableOut (tgt := 146) hx hb dX2_apply_19 (by have n0 := lv_neT c7 (a := 0) rfl; have n1 := lv_neT c10 (a := 1) rfl; have n2 := lv_neT c13 (a := 2) rfl; have n3 := lv_neT c19 (a := 3) rfl; have n4 := lv_neT c22 (a := 4) rfl; have n5 := lv_neT c27 (a := 5) rfl; have n6 := lv_neT c32 (a := 6) rfl; have n7 := lv_neT c37 (a := 7) rfl; omega) (by decide) ?_
                    refine lv_aload_n hx hb dX2_apply_146 rfl (lv_at hl 1 rfl) ?_
                    refine lv_aload_n hx hb dX2_apply_147 rfl (lv_at hl 1 rfl) ?_
                    refine va_get (D := D) (ci := 2) (v := .ref rg) (C := RX2) (T := TX2) (N := 1) hx hb hws inlX2 hown hK hP 0 rfl rfl 0 (by decide) (hws _ mw_33) (fun _ h9 => h9) rfl dX2_apply_148 ?_
                    refine kc_Vi (wr := [(sm, .inr (2, [.ref rg]))]) (As := []) (rest := [.ref sm]) (fun _ => (kX2 cI sm rg wa v_wd)) ⟨hx, hb, hml, hown, hws⟩ hK hP hD hS hA hT (c_X1_a l D cI rg wa H.size v_wd ) (cwV 0 hws (gw_V mw_295 mw_268 mw_269 mw_32 mw_270) rfl rfl rfl hdX1_a ⟨Nat.le_of_ble_eq_true rfl, Nat.le_of_ble_eq_true rfl⟩) [1, 2] [0] [0] [0, 1, 2] rfl rfl rfl rfl (by decide) rfl (fun _ => rfl) rfl 1 rfl rfl rfl rfl hl.1 rfl (Nat.le_of_ble_eq_true rfl) dX2_apply_151 ⟨Nat.zero_le _, Nat.zero_le _⟩ (fun r44 _ H locs hw43 hP hD hS => ?_)
                    have hP : va_P D vwCl (kX2 cI sm rg wa v_wd) H := hP
                    have hD : va_D A (kX2 cI sm rg wa v_wd) := hD
                    have hf := hf.trans (kE1 hw43)
                    refine lv_iload_n hx hb dX2_apply_154 rfl (lv_at hl 3 rfl) ?_
                    refine lv_ior hx hb dX2_apply_155 ?_
                    refine lv_iconst (v := 0) hx hb dX2_apply_156 (by decide) ?_
                    refine kc_Vv (wr := []) (As := [.int (r44 ||| a2), .int (bI false)]) (rest := []) (fun u9 => (kX2 cI sm rg wa u9)) ⟨hx, hb, hml, hown, hws⟩ hK hP hD hS hA hT (c_X2_putLogic l D cI sm rg wa H.size v_wd (r44 ||| a2) false) (cwV 2 hws (gw_V mw_310 mw_311 mw_312 mw_18 mw_313) rfl rfl rfl hdX2_putLogic ⟨Nat.le_of_ble_eq_true rfl, Nat.le_of_ble_eq_true rfl⟩) [0, 1, 2] [] [0] [0, 1, 2] rfl rfl rfl rfl (by decide) rfl (fun _ => rfl) rfl 0 rfl rfl rfl rfl hl.1 rfl (Nat.le_of_ble_eq_true rfl) dX2_apply_157 ⟨Nat.zero_le _, Nat.zero_le _⟩ (fun b45 H locs hw46 hP hD hS => ?_)
                    have hP : va_P D vwCl (kX2 cI sm rg wa b45) H := hP
                    have hD : va_D A (kX2 cI sm rg wa b45) := hD
                    have hf := hf.trans (kE1 hw46)
                    rw [← hQ]
                    exact W.vret hx hb hr (fun t ht hW => ⟨⟨b45, rfl, hf.symm, by rw [ht]; exact hP, va_K.moved hW.alike hK, hD⟩, hS.F ht⟩) hS.2.2 dX2_apply_160
  have hf := hTJ6
  refine lv_if_eq (tgt := 16) hx hb dX2_apply_9 (by decide) (fun c4 => ?_) (fun c4 => ?_)
  · have hf := hf.trans (kt_eq c4)
    refine lv_iconst (v := 0) hx hb dX2_apply_16 (by decide) ?_
    exact J6 false hf.symm H locs ls (lv_sub hl [0, 1, 2] rfl) hP hD hS
  · have hf := hf.trans (kf_eq c4)
    refine lv_iconst (v := 1) hx hb dX2_apply_12 (by decide) ?_
    refine lv_goto (tgt := 17) hx hb dX2_apply_13 (by decide) ?_
    exact J6 true hf.symm H locs ls (lv_sub hl [0, 1, 2] rfl) hP hD hS
def fX2_spPlus (v_wd : Nat → Int32) (a1 : Int32) : Int32 × (Nat → Int32) := (kU1 (fX1_word v_wd (4 : Int32)) (fun (r2 : Int32) => (kU1 (((kIf (kLe ((r2 &&& (15 : Int32)) + (a1 &&& (15 : Int32))) (15 : Int32)) false true) : Bool)) (fun (z4 : Bool) => (kU1 (((kIf (kLe ((r2 &&& (255 : Int32)) + a1) (255 : Int32)) false true) : Bool)) (fun (z7 : Bool) => (kU1 (fX1_setFlags v_wd false false z4 z7) (fun (b9 : Nat → Int32) => ((r2 + a1.toInt8.toInt32), b9)))))))))
def rmX2_spPlus : Room := { frames := 1, cells := 0, slots := 0, locals := 25 }
def wwX2_spPlus : List Cond := Cond.code yX2_spPlus cX2_spPlus 3 (some .int) :: wsL_law
theorem hdX2_spPlus : yX2_spPlus.cls = RX2 ∧ yX2_spPlus.cls ≠ "java/lang/invoke/MethodHandle" ∧ yX2_spPlus.cls ≠ "java/lang/invoke/VarHandle" ∧ (parseMethodDescriptor yX2_spPlus.desc).map (fun d => d.parameters.length) = some 1 := by decide +kernel
set_option maxHeartbeats 4000000 in
set_option maxRecDepth 100000 in
theorem c_X2_spPlus (l : Launch) (D : va_G) (cI : ClassId) (sm rg wa sz : Nat) (v_wd : Nat → Int32) (a1 : Int32)  : Met l yX2_spPlus wwX2_spPlus rmX2_spPlus (va_Pc [.ref sm, .int a1] (kp D (kX2 cI sm rg wa v_wd) [(cI, .int)] sz)) (va_Qi (fun (r : Int32) (u9 : (Nat → Int32)) => (r, u9) = fX2_spPlus v_wd a1) (fun u9 t => kq D (kX2 cI sm rg wa u9) [(cI, .int)] (va_A (kX2 cI sm rg wa v_wd) sz) t) (va_A (kX2 cI sm rg wa v_wd) sz)) 0 0 (va_A (kX2 cI sm rg wa v_wd) sz) := by
  refine Met.ofW (cc := cX2_spPlus) (maxL := 3) (ret := (some .int)) (by decide) rfl ?_
  intro p e s m args below meth c s₁ B hml hv
  obtain ⟨rfl, hsz, hP, hK, hD0, hT⟩ := hv
  have hx := B.exec
  have hb := B.bytes
  have hr := B.returns
  have hts := atoms_spec (ws := wwX2_spPlus) B.pre
  have hws : ∀ w ∈ wsL_law, w.before _ s = true := fun w h => hts w (List.mem_cons_of_mem _ h)
  have hown : s.vm.findClass RX2 = some m.cls := findClass_of_methodNamed B.named
  have hlocks := B.notSynchronized
  subst hsz
  have hD := hD0.self (sz := s.heap.size)
  generalize hAe : va_A (kX2 cI sm rg wa v_wd) s.heap.size = A at hD hT ⊢
  have hA : ∀ q : Nat, s.heap.size ≤ q → A q := fun q h => by rw [← hAe]; exact Or.inr h
  have hS : va_S A s.heap s.heap [] := va_S.rf
  have hl := lv_entry ([.ref sm, .int a1]) (n := 3) (Nat.le_of_ble_eq_true rfl)
  rw [lg_entry_eq]
  generalize (lg_sl ([.ref sm, .int a1]) ++ List.replicate (3 - (lg_sl ([.ref sm, .int a1])).length) Slot.unset).toArray = ls at hl ⊢
  have hl : lv_has ls 3 [(0, .ref sm), (1, .int a1)] := hl
  generalize hQ : MQ _ _ _ _ _ _ _ = Q
  obtain ⟨H, hHe⟩ : ∃ H : Heap, H = s.heap := ⟨_, rfl⟩
  obtain ⟨locs, hle⟩ : ∃ L : List Loc, L = [] := ⟨_, rfl⟩
  have hP : va_P D vwCl (kX2 cI sm rg wa v_wd) H := by rw [hHe]; exact hP
  have hS : va_S A s.heap H locs := by rw [hHe, hle]; exact hS
  refine kw_start hHe.symm hle.symm ?_
  have hf : fX2_spPlus v_wd a1 = fX2_spPlus v_wd a1 := rfl
  refine lv_aload_n hx hb dX2_spPlus_0 rfl (lv_at hl 0 rfl) ?_
  refine va_get (D := D) (ci := 2) (v := .ref rg) (C := RX2) (T := TX2) (N := 1) hx hb hws inlX2 hown hK hP 0 rfl rfl 0 (by decide) (hws _ mw_33) (fun _ h9 => h9) rfl dX2_spPlus_1 ?_
  refine lv_iconst (v := 4) hx hb dX2_spPlus_4 (by decide) ?_
  refine kc_Vi (wr := [(sm, .inr (2, [.ref rg]))]) (As := [.int (4 : Int32)]) (rest := []) (fun _ => (kX2 cI sm rg wa v_wd)) ⟨hx, hb, hml, hown, hws⟩ hK hP hD hS hA hT (c_X1_word l D cI rg wa H.size v_wd (4 : Int32)) (cwV 1 hws (gw_V mw_257 mw_124 mw_125 mw_32 mw_126) rfl rfl rfl hdX1_word ⟨Nat.le_of_ble_eq_true rfl, Nat.le_of_ble_eq_true rfl⟩) [1, 2] [0] [0] [0, 1, 2] rfl rfl rfl rfl (by decide) rfl (fun _ => rfl) rfl 1 rfl rfl rfl rfl hl.1 rfl (Nat.le_of_ble_eq_true rfl) dX2_spPlus_5 ⟨Nat.zero_le _, Nat.zero_le _⟩ (fun r2 _ H locs hw1 hP hD hS => ?_)
  have hP : va_P D vwCl (kX2 cI sm rg wa v_wd) H := hP
  have hD : va_D A (kX2 cI sm rg wa v_wd) := hD
  have hf := hf.trans (kE1 hw1)
  refine lv_istore_n (lv' := [(2, .int r2), (0, .ref sm), (1, .int a1)]) hx hb dX2_spPlus_8 rfl hl (by decide) rfl (fun ls hl => ?_)
  refine lv_aload_n hx hb dX2_spPlus_9 rfl (lv_at hl 1 rfl) ?_
  refine va_get (D := D) (ci := 2) (v := .ref rg) (C := RX2) (T := TX2) (N := 1) hx hb hws inlX2 hown hK hP 0 rfl rfl 0 (by decide) (hws _ mw_33) (fun _ h9 => h9) rfl dX2_spPlus_10 ?_
  refine lv_iconst (v := 0) hx hb dX2_spPlus_13 (by decide) ?_
  refine lv_iconst (v := 0) hx hb dX2_spPlus_14 (by decide) ?_
  refine lv_iload_n hx hb dX2_spPlus_15 rfl (lv_at hl 0 rfl) ?_
  refine lv_bipush (v := 15) hx hb dX2_spPlus_16 (by decide) ?_
  refine lv_iand hx hb dX2_spPlus_18 ?_
  refine lv_iload_n hx hb dX2_spPlus_19 rfl (lv_at hl 2 rfl) ?_
  refine lv_bipush (v := 15) hx hb dX2_spPlus_20 (by decide) ?_
  refine lv_iand hx hb dX2_spPlus_22 ?_
  refine lv_iadd hx hb dX2_spPlus_23 ?_
  refine lv_bipush (v := 15) hx hb dX2_spPlus_24 (by decide) ?_
  obtain ⟨TJ5, hTJ5⟩ : ∃ T9 : Bool, T9 = (kIf (kLe ((r2 &&& (15 : Int32)) + (a1 &&& (15 : Int32))) (15 : Int32)) false true) := ⟨_, rfl⟩
  have J5 : ∀ (z4 : Bool), z4 = TJ5 → ∀ (H : Heap) (locs : List Loc) (ls : Array Slot), lv_has ls 3 [(2, .int r2), (0, .ref sm), (1, .int a1)] → va_P D vwCl (kX2 cI sm rg wa v_wd) H → va_D A (kX2 cI sm rg wa v_wd) → va_S A s.heap H locs → W p l e (headSpec wwX2_spPlus rmX2_spPlus).room s m ([.ref sm, .int a1] : List Value).toArray below meth c H locs 0 0 Q (F0 m 34 ls [.int (bI z4), .int (0 : Int32), .int (0 : Int32), .ref rg]) := by
    intro z4 eJ5 H locs ls hl hP hD hS
    have hf := hf.trans (kE1 (eJ5.trans hTJ5))
    refine lv_iload_n hx hb dX2_spPlus_34 rfl (lv_at hl 0 rfl) ?_
    refine lv_sipush (v := 255) hx hb dX2_spPlus_35 (by decide) ?_
    refine lv_iand hx hb dX2_spPlus_38 ?_
    refine lv_iload_n hx hb dX2_spPlus_39 rfl (lv_at hl 2 rfl) ?_
    refine lv_iadd hx hb dX2_spPlus_40 ?_
    refine lv_sipush (v := 255) hx hb dX2_spPlus_41 (by decide) ?_
    obtain ⟨TJ8, hTJ8⟩ : ∃ T9 : Bool, T9 = (kIf (kLe ((r2 &&& (255 : Int32)) + a1) (255 : Int32)) false true) := ⟨_, rfl⟩
    have J8 : ∀ (z7 : Bool), z7 = TJ8 → ∀ (H : Heap) (locs : List Loc) (ls : Array Slot), lv_has ls 3 [(2, .int r2), (0, .ref sm), (1, .int a1)] → va_P D vwCl (kX2 cI sm rg wa v_wd) H → va_D A (kX2 cI sm rg wa v_wd) → va_S A s.heap H locs → W p l e (headSpec wwX2_spPlus rmX2_spPlus).room s m ([.ref sm, .int a1] : List Value).toArray below meth c H locs 0 0 Q (F0 m 52 ls [.int (bI z7), .int (bI z4), .int (0 : Int32), .int (0 : Int32), .ref rg]) := by
      intro z7 eJ8 H locs ls hl hP hD hS
      have hf := hf.trans (kE1 (eJ8.trans hTJ8))
      refine kc_Vv (wr := [(sm, .inr (2, [.ref rg]))]) (As := [.int (bI false), .int (bI false), .int (bI z4), .int (bI z7)]) (rest := []) (fun u9 => (kX2 cI sm rg wa u9)) ⟨hx, hb, hml, hown, hws⟩ hK hP hD hS hA hT (c_X1_setFlags l D cI rg wa H.size v_wd false false z4 z7) (cwV 4 hws (gw_V mw_210 mw_211 mw_212 mw_32 mw_213) rfl rfl rfl hdX1_setFlags ⟨Nat.le_of_ble_eq_true rfl, Nat.le_of_ble_eq_true rfl⟩) [1, 2] [0] [0] [0, 1, 2] rfl rfl rfl rfl (by decide) rfl (fun _ => rfl) rfl 1 rfl rfl rfl rfl hl.1 rfl (Nat.le_of_ble_eq_true rfl) dX2_spPlus_52 ⟨Nat.zero_le _, Nat.zero_le _⟩ (fun b9 H locs hw10 hP hD hS => ?_)
      have hP : va_P D vwCl (kX2 cI sm rg wa b9) H := hP
      have hD : va_D A (kX2 cI sm rg wa b9) := hD
      have hf := hf.trans (kE1 hw10)
      refine lv_iload_n hx hb dX2_spPlus_55 rfl (lv_at hl 0 rfl) ?_
      refine lv_iload_n hx hb dX2_spPlus_56 rfl (lv_at hl 2 rfl) ?_
      refine lv_i2b (v := a1.toInt8.toInt32) hx hb dX2_spPlus_57 rfl ?_
      refine lv_iadd hx hb dX2_spPlus_58 ?_
      rw [← hQ]
      exact W.iret (v := (r2 + a1.toInt8.toInt32)) hx hb hr (fun t ht hW => ⟨⟨(r2 + a1.toInt8.toInt32), b9, rfl, hf.symm, by rw [ht]; exact hP, va_K.moved hW.alike hK, hD⟩, hS.F ht⟩) hS.2.2 dX2_spPlus_59
    have hf := hTJ8
    refine lv_icmp_le (tgt := 51) hx hb dX2_spPlus_44 (by decide) (fun c6 => ?_) (fun c6 => ?_)
    · have hf := hf.trans (kt_le c6)
      refine lv_iconst (v := 0) hx hb dX2_spPlus_51 (by decide) ?_
      exact J8 false hf.symm H locs ls (lv_sub hl [0, 1, 2] rfl) hP hD hS
    · have hf := hf.trans (kf_le c6)
      refine lv_iconst (v := 1) hx hb dX2_spPlus_47 (by decide) ?_
      refine lv_goto (tgt := 52) hx hb dX2_spPlus_48 (by decide) ?_
      exact J8 true hf.symm H locs ls (lv_sub hl [0, 1, 2] rfl) hP hD hS
  have hf := hTJ5
  refine lv_icmp_le (tgt := 33) hx hb dX2_spPlus_26 (by decide) (fun c3 => ?_) (fun c3 => ?_)
  · have hf := hf.trans (kt_le c3)
    refine lv_iconst (v := 0) hx hb dX2_spPlus_33 (by decide) ?_
    exact J5 false hf.symm H locs ls (lv_sub hl [0, 1, 2] rfl) hP hD hS
  · have hf := hf.trans (kf_le c3)
    refine lv_iconst (v := 1) hx hb dX2_spPlus_29 (by decide) ?_
    refine lv_goto (tgt := 34) hx hb dX2_spPlus_30 (by decide) ?_
    exact J5 true hf.symm H locs ls (lv_sub hl [0, 1, 2] rfl) hP hD hS
