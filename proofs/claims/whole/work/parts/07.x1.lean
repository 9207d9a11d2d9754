def fX1_word (v_wd : Nat → Int32) (a1 : Int32) : Int32 := (kIf (kLt a1 (0 : Int32)) (-1 : Int32) (kIf (kLt a1 (6 : Int32)) (v_wd a1.toNatClampNeg) (-1 : Int32)))
def rmX1_word : Room := { frames := 0, cells := 0, slots := 0, locals := 0 }
def wwX1_word : List Cond := Cond.code yX1_word cX1_word 2 (some .int) :: wsL_law
theorem hdX1_word : yX1_word.cls = RX1 ∧ yX1_word.cls ≠ "java/lang/invoke/MethodHandle" ∧ yX1_word.cls ≠ "java/lang/invoke/VarHandle" ∧ (parseMethodDescriptor yX1_word.desc).map (fun d => d.parameters.length) = some 1 := by decide +kernel
set_option maxHeartbeats 4000000 in
set_option maxRecDepth 100000 in
theorem c_X1_word (l : Launch) (D : va_G) (cI : ClassId) (rg wa sz : Nat) (v_wd : Nat → Int32) (a1 : Int32)  : Met l yX1_word wwX1_word rmX1_word (va_Pc [.ref rg, .int a1] (kp D (kX1 cI rg wa v_wd) [(cI, .int)] sz)) (va_Qi (fun (r : Int32) (_ : Unit) => r = fX1_word v_wd a1) (fun _ t => kq D (kX1 cI rg wa v_wd) [(cI, .int)] (va_A (kX1 cI rg wa v_wd) sz) t) (va_A (kX1 cI rg wa v_wd) sz)) 0 0 (va_A (kX1 cI rg wa v_wd) sz) := by
  refine Met.ofW (cc := cX1_word) (maxL := 2) (ret := (some .int)) (by decide) rfl ?_
  intro p e s m args below meth c s₁ B hml hv
  obtain ⟨rfl, hsz, hP, hK, hD0, hT⟩ := hv
  have hx := B.exec
  have hb := B.bytes
  have hr := B.returns
  have hts := atoms_spec (ws := wwX1_word) B.pre
  have hws : ∀ w ∈ wsL_law, w.before _ s = true := fun w h => hts w (List.mem_cons_of_mem _ h)
  have hown : s.vm.findClass RX1 = some m.cls := findClass_of_methodNamed B.named
  have hlocks := B.notSynchronized
  subst hsz
  have hD := hD0.self (sz := s.heap.size)
  generalize hAe : va_A (kX1 cI rg wa v_wd) s.heap.size = A at hD hT ⊢
  have hA : ∀ q : Nat, s.heap.size ≤ q → A q := fun q h => by rw [← hAe]; exact Or.inr h
  have hS : va_S A s.heap s.heap [] := va_S.rf
  have hl := lv_entry ([.ref rg, .int a1]) (n := 2) (Nat.le_of_ble_eq_true rfl)
  rw [lg_entry_eq]
  generalize (lg_sl ([.ref rg, .int a1]) ++ List.replicate (2 - (lg_sl ([.ref rg, .int a1])).length) Slot.unset).toArray = ls at hl ⊢
  have hl : lv_has ls 2 [(0, .ref rg), (1, .int a1)] := hl
  generalize hQ : MQ _ _ _ _ _ _ _ = Q
  obtain ⟨H, hHe⟩ : ∃ H : Heap, H = s.heap := ⟨_, rfl⟩
  obtain ⟨locs, hle⟩ : ∃ L : List Loc, L = [] := ⟨_, rfl⟩
  have hP : va_P D vwCl (kX1 cI rg wa v_wd) H := by rw [hHe]; exact hP
  have hS : va_S A s.heap H locs := by rw [hHe, hle]; exact hS
  refine kw_start hHe.symm hle.symm ?_
  have hf : fX1_word v_wd a1 = fX1_word v_wd a1 := rfl
  refine lv_iload_n hx hb dX1_word_0 rfl (lv_at hl 1 rfl) ?_
  refine lv_if_lt (tgt := 13) hx hb dX1_word_1 (by decide) (fun c1 => ?_) (fun c1 => ?_)
  · have hf := hf.trans (kt_lt c1)
    refine lv_iconst (v := -1) hx hb dX1_word_13 (by decide) ?_
    rw [← hQ]
    exact W.iret (v := (-1 : Int32)) hx hb hr (fun t ht hW => ⟨⟨(-1 : Int32), (), rfl, hf.symm, by rw [ht]; exact hP, va_K.moved hW.alike hK, hD⟩, hS.F ht⟩) hS.2.2 dX1_word_14
  · have hf := hf.trans (kf_lt c1)
    refine lv_iload_n hx hb dX1_word_4 rfl (lv_at hl 1 rfl) ?_
    refine lv_aload_n hx hb dX1_word_5 rfl (lv_at hl 0 rfl) ?_
    refine va_get (D := D) (ci := 1) (v := .ref wa) (C := RX1) (T := TX1) (N := 1) hx hb hws inlX1 hown hK hP 0 rfl rfl 0 (by decide) (hws _ mw_38) (fun _ h9 => h9) rfl dX1_word_6 ?_
    refine va_alen (v := 6) hx hb hK hP 1 0 rfl rfl rfl dX1_word_9 ?_
    refine lv_icmp_lt (tgt := 15) hx hb dX1_word_10 (by decide) (fun c2 => ?_) (fun c2 => ?_)
    · have hf := hf.trans (kt_lt c2)
      refine lv_aload_n hx hb dX1_word_15 rfl (lv_at hl 0 rfl) ?_
      refine va_get (D := D) (ci := 1) (v := .ref wa) (C := RX1) (T := TX1) (N := 1) hx hb hws inlX1 hown hK hP 0 rfl rfl 0 (by decide) (hws _ mw_38) (fun _ h9 => h9) rfl dX1_word_16 ?_
      refine lv_iload_n hx hb dX1_word_19 rfl (lv_at hl 1 rfl) ?_
      refine va_iald hx hb hK hP 1 0 rfl rfl (ki_lt c1 c2 rfl) dX1_word_20 ?_
      rw [← hQ]
      exact W.iret (v := (v_wd a1.toNatClampNeg)) hx hb hr (fun t ht hW => ⟨⟨(v_wd a1.toNatClampNeg), (), rfl, hf.symm, by rw [ht]; exact hP, va_K.moved hW.alike hK, hD⟩, hS.F ht⟩) hS.2.2 dX1_word_21
    · have hf := hf.trans (kf_lt c2)
      refine lv_iconst (v := -1) hx hb dX1_word_13 (by decide) ?_
      rw [← hQ]
      exact W.iret (v := (-1 : Int32)) hx hb hr (fun t ht hW => ⟨⟨(-1 : Int32), (), rfl, hf.symm, by rw [ht]; exact hP, va_K.moved hW.alike hK, hD⟩, hS.F ht⟩) hS.2.2 dX1_word_14
def fX1_setWord (v_wd : Nat → Int32) (a1 : Int32) (a2 : Int32) : Bool × (Nat → Int32) := (kIf (kLt a1 (0 : Int32)) (false, v_wd) (kIf (kLt a1 (6 : Int32)) (kU1 (((kIf (kEq a1 (0 : Int32)) (65520 : Int32) (65535 : Int32)) : Int32)) (fun (x4 : Int32) => (kU1 (upd v_wd a1.toNatClampNeg (a2 &&& x4)) (fun (f6 : Nat → Int32) => (true, f6))))) (false, v_wd)))
def rmX1_setWord : Room := { frames := 0, cells := 0, slots := 0, locals := 0 }
def wwX1_setWord : List Cond := Cond.code yX1_setWord cX1_setWord 3 (some .boolean) :: wsL_law
theorem hdX1_setWord : yX1_setWord.cls = RX1 ∧ yX1_setWord.cls ≠ "java/lang/invoke/MethodHandle" ∧ yX1_setWord.cls ≠ "java/lang/invoke/VarHandle" ∧ (parseMethodDescriptor yX1_setWord.desc).map (fun d => d.parameters.length) = some 2 := by decide +kernel
set_option maxHeartbeats 4000000 in
set_option maxRecDepth 100000 in
theorem c_X1_setWord (l : Launch) (D : va_G) (cI : ClassId) (rg wa sz : Nat) (v_wd : Nat → Int32) (a1 : Int32) (a2 : Int32)  : Met l yX1_setWord wwX1_setWord rmX1_setWord (va_Pc [.ref rg, .int a1, .int a2] (kp D (kX1 cI rg wa v_wd) [(cI, .int)] sz)) (va_Qi (fun (r : Int32) (u9 : (Nat → Int32)) => ∃ z9 : Bool, r = bI z9 ∧ (z9, u9) = fX1_setWord v_wd a1 a2) (fun u9 t => kq D (kX1 cI rg wa u9) [(cI, .int)] (va_A (kX1 cI rg wa v_wd) sz) t) (va_A (kX1 cI rg wa v_wd) sz)) 0 0 (va_A (kX1 cI rg wa v_wd) sz) := by
  refine Met.ofW (cc := cX1_setWord) (maxL := 3) (ret := (some .boolean)) (by decide) rfl ?_
  intro p e s m args below meth c s₁ B hml hv
  obtain ⟨rfl, hsz, hP, hK, hD0, hT⟩ := hv
  have hx := B.exec
  have hb := B.bytes
  have hr := B.returns
  have hts := atoms_spec (ws := wwX1_setWord) B.pre
  have hws : ∀ w ∈ wsL_law, w.before _ s = true := fun w h => hts w (List.mem_cons_of_mem _ h)
  have hown : s.vm.findClass RX1 = some m.cls := findClass_of_methodNamed B.named
  have hlocks := B.notSynchronized
  subst hsz
  have hD := hD0.self (sz := s.heap.size)
  generalize hAe : va_A (kX1 cI rg wa v_wd) s.heap.size = A at hD hT ⊢
  have hA : ∀ q : Nat, s.heap.size ≤ q → A q := fun q h => by rw [← hAe]; exact Or.inr h
  have hS : va_S A s.heap s.heap [] := va_S.rf
  have hl := lv_entry ([.ref rg, .int a1, .int a2]) (n := 3) (Nat.le_of_ble_eq_true rfl)
  rw [lg_entry_eq]
  generalize (lg_sl ([.ref rg, .int a1, .int a2]) ++ List.replicate (3 - (lg_sl ([.ref rg, .int a1, .int a2])).length) Slot.unset).toArray = ls at hl ⊢
  have hl : lv_has ls 3 [(0, .ref rg), (1, .int a1), (2, .int a2)] := hl
  generalize hQ : MQ _ _ _ _ _ _ _ = Q
  obtain ⟨H, hHe⟩ : ∃ H : Heap, H = s.heap := ⟨_, rfl⟩
  obtain ⟨locs, hle⟩ : ∃ L : List Loc, L = [] := ⟨_, rfl⟩
  have hP : va_P D vwCl (kX1 cI rg wa v_wd) H := by rw [hHe]; exact hP
  have hS : va_S A s.heap H locs := by rw [hHe, hle]; exact hS
  refine kw_start hHe.symm hle.symm ?_
  have hf : fX1_setWord v_wd a1 a2 = fX1_setWord v_wd a1 a2 := rfl
  refine lv_iload_n hx hb dX1_setWord_0 rfl (lv_at hl 1 rfl) ?_
  refine lv_if_lt (tgt := 13) hx hb dX1_setWord_1 (by decide) (fun c1 => ?_) (fun c1 => ?_)
  · have hf := hf.trans (kt_lt c1)
    refine lv_iconst (v := 0) hx hb dX1_setWord_13 (by decide) ?_
    rw [← hQ]
    exact W.zret (v := bI false) (ty := .boolean) hx hb hr (bI_nar _) (fun t ht hW => ⟨⟨bI false, v_wd, rfl, ⟨false, rfl, hf.symm⟩, by rw [ht]; exact hP, va_K.moved hW.alike hK, hD⟩, hS.F ht⟩) hS.2.2 dX1_setWord_14
  · have hf := hf.trans (kf_lt c1)
    refine lv_iload_n hx hb dX1_setWord_4 rfl (lv_at hl 1 rfl) ?_
    refine lv_aload_n hx hb dX1_setWord_5 rfl (lv_at hl 0 rfl) ?_
    refine va_get (D := D) (ci := 1) (v := .ref wa) (C := RX1) (T := TX1) (N := 1) hx hb hws inlX1 hown hK hP 0 rfl rfl 0 (by decide) (hws _ mw_38) (fun _ h9 => h9) rfl dX1_setWord_6 ?_
    refine va_alen (v := 6) hx hb hK hP 1 0 rfl rfl rfl dX1_setWord_9 ?_
    refine lv_icmp_lt (tgt := 15) hx hb dX1_setWord_10 (by decide) (fun c2 => ?_) (fun c2 => ?_)
    · have hf := hf.trans (kt_lt c2)
      refine lv_aload_n hx hb dX1_setWord_15 rfl (lv_at hl 0 rfl) ?_
      refine va_get (D := D) (ci := 1) (v := .ref wa) (C := RX1) (T := TX1) (N := 1) hx hb hws inlX1 hown hK hP 0 rfl rfl 0 (by decide) (hws _ mw_38) (fun _ h9 => h9) rfl dX1_setWord_16 ?_
      refine lv_iload_n hx hb dX1_setWord_19 rfl (lv_at hl 1 rfl) ?_
      refine lv_iload_n hx hb dX1_setWord_20 rfl (lv_at hl 2 rfl) ?_
      refine lv_iload_n hx hb dX1_setWord_21 rfl (lv_at hl 1 rfl) ?_
      obtain ⟨TJ5, hTJ5⟩ : ∃ T9 : Int32, T9 = (kIf (kEq a1 (0 : Int32)) (65520 : Int32) (65535 : Int32)) := ⟨_, rfl⟩
      have J5 : ∀ (x4 : Int32), x4 = TJ5 → ∀ (H : Heap) (locs : List Loc) (ls : Array Slot), lv_has ls 3 [(0, .ref rg), (1, .int a1), (2, .int a2)] → va_P D vwCl (kX1 cI rg wa v_wd) H → va_D A (kX1 cI rg wa v_wd) → va_S A s.heap H locs → W p l e (headSpec wwX1_setWord rmX1_setWord).room s m ([.ref rg, .int a1, .int a2] : List Value).toArray below meth c H locs 0 0 Q (F0 m 32 ls [.int x4, .int a2, .int a1, .ref wa]) := by
        intro x4 eJ5 H locs ls hl hP hD hS
        have hf := hf.trans (kE1 (eJ5.trans hTJ5))
        refine lv_iand hx hb dX1_setWord_32 ?_
        refine va_iast hx hb hK hP hD hS 1 0 rfl rfl (ki_lt c1 c2 rfl) dX1_setWord_33 (fun H locs hP hD hS => ?_)
        obtain ⟨f6, ef6⟩ : ∃ f9 : Nat → Int32, f9 = upd v_wd a1.toNatClampNeg (a2 &&& x4) := ⟨_, rfl⟩
        have hf := hf.trans (kE1 ef6)
        have hP : va_P D vwCl (kX1 cI rg wa f6) H := by rw [ef6]; exact hP
        have hD : va_D A (kX1 cI rg wa f6) := by rw [ef6]; exact hD
        refine lv_iconst (v := 1) hx hb dX1_setWord_34 (by decide) ?_
        rw [← hQ]
        exact W.zret (v := bI true) (ty := .boolean) hx hb hr (bI_nar _) (fun t ht hW => ⟨⟨bI true, f6, rfl, ⟨true, rfl, hf.symm⟩, by rw [ht]; exact hP, va_K.moved hW.alike hK, hD⟩, hS.F ht⟩) hS.2.2 dX1_setWord_35
      have hf := hTJ5
      refine lv_if_ne (tgt := 30) hx hb dX1_setWord_22 (by decide) (fun c3 => ?_) (fun c3 => ?_)
      · have hf := hf.trans (kf_eq c3)
        refine lv_ldc (v := 65535) hx hb hown (hws _ mw_142) dX1_setWord_30 ?_
        exact J5 (65535 : Int32) hf.symm H locs ls (lv_sub hl [0, 1, 2] rfl) hP hD hS
      · have hf := hf.trans (kt_eq c3)
        refine lv_ldc (v := 65520) hx hb hown (hws _ mw_141) dX1_setWord_25 ?_
        refine lv_goto (tgt := 32) hx hb dX1_setWord_27 (by decide) ?_
        exact J5 (65520 : Int32) hf.symm H locs ls (lv_sub hl [0, 1, 2] rfl) hP hD hS
    · have hf := hf.trans (kf_lt c2)
      refine lv_iconst (v := 0) hx hb dX1_setWord_13 (by decide) ?_
      rw [← hQ]
      exact W.zret (v := bI false) (ty := .boolean) hx hb hr (bI_nar _) (fun t ht hW => ⟨⟨bI false, v_wd, rfl, ⟨false, rfl, hf.symm⟩, by rw [ht]; exact hP, va_K.moved hW.alike hK, hD⟩, hS.F ht⟩) hS.2.2 dX1_setWord_14
def fX1_pairOf  (a1 : Int32) : Int32 := (((1 : Int32) + (a1 >>> ((1 : Int32) &&& (31 : Int32)))) &&& (3 : Int32))
def rmX1_pairOf : Room := { frames := 0, cells := 0, slots := 0, locals := 0 }
def wwX1_pairOf : List Cond := Cond.code yX1_pairOf cX1_pairOf 1 (some .int) :: wsL_law
theorem hdX1_pairOf : yX1_pairOf.cls = RX1 ∧ yX1_pairOf.cls ≠ "java/lang/invoke/MethodHandle" ∧ yX1_pairOf.cls ≠ "java/lang/invoke/VarHandle" ∧ (parseMethodDescriptor yX1_pairOf.desc).map (fun d => d.parameters.length) = some 1 := by decide +kernel
set_option maxHeartbeats 4000000 in
set_option maxRecDepth 100000 in
theorem c_X1_pairOf (l : Launch) (D : va_G) (sz : Nat) (a1 : Int32)  : Met l yX1_pairOf wwX1_pairOf rmX1_pairOf (va_Pc [.int a1] (kp D [] [] sz)) (va_Qi (fun (r : Int32) (_ : Unit) => r = fX1_pairOf a1) (fun _ t => kq D [] [] (va_A [] sz) t) (va_A [] sz)) 0 0 (va_A [] sz) := by
  refine Met.ofW (cc := cX1_pairOf) (maxL := 1) (ret := (some .int)) (by decide) rfl ?_
  intro p e s m args below meth c s₁ B hml hv
  obtain ⟨rfl, hsz, hP, hK, hD0, hT⟩ := hv
  have hx := B.exec
  have hb := B.bytes
  have hr := B.returns
  have hts := atoms_spec (ws := wwX1_pairOf) B.pre
  have hws : ∀ w ∈ wsL_law, w.before _ s = true := fun w h => hts w (List.mem_cons_of_mem _ h)
  have hown : s.vm.findClass RX1 = some m.cls := findClass_of_methodNamed B.named
  have hlocks := B.notSynchronized
  subst hsz
  have hD := hD0.self (sz := s.heap.size)
  generalize hAe : va_A [] s.heap.size = A at hD hT ⊢
  have hA : ∀ q : Nat, s.heap.size ≤ q → A q := fun q h => by rw [← hAe]; exact Or.inr h
  have hS : va_S A s.heap s.heap [] := va_S.rf
  have hl := lv_entry ([.int a1]) (n := 1) (Nat.le_of_ble_eq_true rfl)
  rw [lg_entry_eq]
  generalize (lg_sl ([.int a1]) ++ List.replicate (1 - (lg_sl ([.int a1])).length) Slot.unset).toArray = ls at hl ⊢
  have hl : lv_has ls 1 [(0, .int a1)] := hl
  generalize hQ : MQ _ _ _ _ _ _ _ = Q
  obtain ⟨H, hHe⟩ : ∃ H : Heap, H = s.heap := ⟨_, rfl⟩
  obtain ⟨locs, hle⟩ : ∃ L : List Loc, L = [] := ⟨_, rfl⟩
  have hP : va_P D vwCl [] H := by rw [hHe]; exact hP
  have hS : va_S A s.heap H locs := by rw [hHe, hle]; exact hS
  refine kw_start hHe.symm hle.symm ?_
  have hf : fX1_pairOf a1 = fX1_pairOf a1 := rfl
  refine lv_iconst (v := 1) hx hb dX1_pairOf_0 (by decide) ?_
  refine lv_iload_n hx hb dX1_pairOf_1 rfl (lv_at hl 0 rfl) ?_
  refine lv_iconst (v := 1) hx hb dX1_pairOf_2 (by decide) ?_
  refine lv_ishr hx hb dX1_pairOf_3 ?_
  refine lv_iadd hx hb dX1_pairOf_4 ?_
  refine lv_iconst (v := 3) hx hb dX1_pairOf_5 (by decide) ?_
  refine lv_iand hx hb dX1_pairOf_6 ?_
  rw [← hQ]
  exact W.iret (v := (((1 : Int32) + (a1 >>> ((1 : Int32) &&& (31 : Int32)))) &&& (3 : Int32))) hx hb hr (fun t ht hW => ⟨⟨(((1 : Int32) + (a1 >>> ((1 : Int32) &&& (31 : Int32)))) &&& (3 : Int32)), (), rfl, hf.symm, by rw [ht]; exact hP, va_K.moved hW.alike hK, hD⟩, hS.F ht⟩) hS.2.2 dX1_pairOf_7
def fX1_isHigh  (a1 : Int32) : Bool := (kIf (kEq a1 (7 : Int32)) true (kIf (kEq (a1 &&& (1 : Int32)) (0 : Int32)) true false))
def rmX1_isHigh : Room := { frames := 0, cells := 0, slots := 0, locals := 0 }
def wwX1_isHigh : List Cond := Cond.code yX1_isHigh cX1_isHigh 1 (some .boolean) :: wsL_law
theorem hdX1_isHigh : yX1_isHigh.cls = RX1 ∧ yX1_isHigh.cls ≠ "java/lang/invoke/MethodHandle" ∧ yX1_isHigh.cls ≠ "java/lang/invoke/VarHandle" ∧ (parseMethodDescriptor yX1_isHigh.desc).map (fun d => d.parameters.length) = some 1 := by decide +kernel
set_option maxHeartbeats 4000000 in
set_option maxRecDepth 100000 in
theorem c_X1_isHigh (l : Launch) (D : va_G) (sz : Nat) (a1 : Int32)  : Met l yX1_isHigh wwX1_isHigh rmX1_isHigh (va_Pc [.int a1] (kp D [] [] sz)) (va_Qi (fun (r : Int32) (_ : Unit) => ∃ z9 : Bool, r = bI z9 ∧ z9 = fX1_isHigh a1) (fun _ t => kq D [] [] (va_A [] sz) t) (va_A [] sz)) 0 0 (va_A [] sz) := by
  refine Met.ofW (cc := cX1_isHigh) (maxL := 1) (ret := (some .boolean)) (by decide) rfl ?_
  intro p e s m args below meth c s₁ B hml hv
  obtain ⟨rfl, hsz, hP, hK, hD0, hT⟩ := hv
  have hx := B.exec
  have hb := B.bytes
  have hr := B.returns
  have hts := atoms_spec (ws := wwX1_isHigh) B.pre
  have hws : ∀ w ∈ wsL_law, w.before _ s = true := fun w h => hts w (List.mem_cons_of_mem _ h)
  have hown : s.vm.findClass RX1 = some m.cls := findClass_of_methodNamed B.named
  have hlocks := B.notSynchronized
  subst hsz
  have hD := hD0.self (sz := s.heap.size)
  generalize hAe : va_A [] s.heap.size = A at hD hT ⊢
  have hA : ∀ q : Nat, s.heap.size ≤ q → A q := fun q h => by rw [← hAe]; exact Or.inr h
  have hS : va_S A s.heap s.heap [] := va_S.rf
  have hl := lv_entry ([.int a1]) (n := 1) (Nat.le_of_ble_eq_true rfl)
  rw [lg_entry_eq]
  generalize (lg_sl ([.int a1]) ++ List.replicate (1 - (lg_sl ([.int a1])).length) Slot.unset).toArray = ls at hl ⊢
  have hl : lv_has ls 1 [(0, .int a1)] := hl
  generalize hQ : MQ _ _ _ _ _ _ _ = Q
  obtain ⟨H, hHe⟩ : ∃ H : Heap, H = s.heap := ⟨_, rfl⟩
  obtain ⟨locs, hle⟩ : ∃ L : List Loc, L = [] := ⟨_, rfl⟩
  have hP : va_P D vwCl [] H := by rw [hHe]; exact hP
  have hS : va_S A s.heap H locs := by rw [hHe, hle]; exact hS
  refine kw_start hHe.symm hle.symm ?_
  have hf : fX1_isHigh a1 = fX1_isHigh a1 := rfl
  refine lv_iload_n hx hb dX1_isHigh_0 rfl (lv_at hl 0 rfl) ?_
  refine lv_bipush (v := 7) hx hb dX1_isHigh_1 (by decide) ?_
  refine lv_icmp_eq (tgt := 12) hx hb dX1_isHigh_3 (by decide) (fun c1 => ?_) (fun c1 => ?_)
  · have hf := hf.trans (kt_eq c1)
    refine lv_iconst (v := 1) hx hb dX1_isHigh_12 (by decide) ?_
    refine lv_goto (tgt := 17) hx hb dX1_isHigh_13 (by decide) ?_
    rw [← hQ]
    exact W.zret (v := bI true) (ty := .boolean) hx hb hr (bI_nar _) (fun t ht hW => ⟨⟨bI true, (), rfl, ⟨true, rfl, hf.symm⟩, by rw [ht]; exact hP, va_K.moved hW.alike hK, hD⟩, hS.F ht⟩) hS.2.2 dX1_isHigh_17
  · have hf := hf.trans (kf_eq c1)
    refine lv_iload_n hx hb dX1_isHigh_6 rfl (lv_at hl 0 rfl) ?_
    refine lv_iconst (v := 1) hx hb dX1_isHigh_7 (by decide) ?_
    refine lv_iand hx hb dX1_isHigh_8 ?_
    refine lv_if_ne (tgt := 16) hx hb dX1_isHigh_9 (by decide) (fun c2 => ?_) (fun c2 => ?_)
    · have hf := hf.trans (kf_eq c2)
      refine lv_iconst (v := 0) hx hb dX1_isHigh_16 (by decide) ?_
      rw [← hQ]
      exact W.zret (v := bI false) (ty := .boolean) hx hb hr (bI_nar _) (fun t ht hW => ⟨⟨bI false, (), rfl, ⟨false, rfl, hf.symm⟩, by rw [ht]; exact hP, va_K.moved hW.alike hK, hD⟩, hS.F ht⟩) hS.2.2 dX1_isHigh_17
    · have hf := hf.trans (kt_eq c2)
      refine lv_iconst (v := 1) hx hb dX1_isHigh_12 (by decide) ?_
      refine lv_goto (tgt := 17) hx hb dX1_isHigh_13 (by decide) ?_
      rw [← hQ]
      exact W.zret (v := bI true) (ty := .boolean) hx hb hr (bI_nar _) (fun t ht hW => ⟨⟨bI true, (), rfl, ⟨true, rfl, hf.symm⟩, by rw [ht]; exact hP, va_K.moved hW.alike hK, hD⟩, hS.F ht⟩) hS.2.2 dX1_isHigh_17
def fX1_half (v_wd : Nat → Int32) (a1 : Int32) : Int32 := (kU1 (fX1_pairOf a1) (fun (r1 : Int32) => (kU1 ((v_wd r1.toNatClampNeg)) (fun (x2 : Int32) => (kU1 (fX1_isHigh a1) (fun (z4 : Bool) => (kIf (kEq (bI z4) (0 : Int32)) (x2 &&& (255 : Int32)) (x2 >>> ((8 : Int32) &&& (31 : Int32))))))))))
def rmX1_half : Room := { frames := 1, cells := 0, slots := 0, locals := 20 }
def wwX1_half : List Cond := Cond.code yX1_half cX1_half 3 (some .int) :: wsL_law
theorem hdX1_half : yX1_half.cls = RX1 ∧ yX1_half.cls ≠ "java/lang/invoke/MethodHandle" ∧ yX1_half.cls ≠ "java/lang/invoke/VarHandle" ∧ (parseMethodDescriptor yX1_half.desc).map (fun d => d.parameters.length) = some 1 := by decide +kernel
set_option maxHeartbeats 4000000 in
set_option maxRecDepth 100000 in
theorem c_X1_half (l : Launch) (D : va_G) (cI : ClassId) (rg wa sz : Nat) (v_wd : Nat → Int32) (a1 : Int32)  : Met l yX1_half wwX1_half rmX1_half (va_Pc [.ref rg, .int a1] (kp D (kX1 cI rg wa v_wd) [(cI, .int)] sz)) (va_Qi (fun (r : Int32) (_ : Unit) => r = fX1_half v_wd a1) (fun _ t => kq D (kX1 cI rg wa v_wd) [(cI, .int)] (va_A (kX1 cI rg wa v_wd) sz) t) (va_A (kX1 cI rg wa v_wd) sz)) 0 0 (va_A (kX1 cI rg wa v_wd) sz) := by
  refine Met.ofW (cc := cX1_half) (maxL := 3) (ret := (some .int)) (by decide) rfl ?_
  intro p e s m args below meth c s₁ B hml hv
  obtain ⟨rfl, hsz, hP, hK, hD0, hT⟩ := hv
  have hx := B.exec
  have hb := B.bytes
  have hr := B.returns
  have hts := atoms_spec (ws := wwX1_half) B.pre
  have hws : ∀ w ∈ wsL_law, w.before _ s = true := fun w h => hts w (List.mem_cons_of_mem _ h)
  have hown : s.vm.findClass RX1 = some m.cls := findClass_of_methodNamed B.named
  have hlocks := B.notSynchronized
  subst hsz
  have hD := hD0.self (sz := s.heap.size)
  generalize hAe : va_A (kX1 cI rg wa v_wd) s.heap.size = A at hD hT ⊢
  have hA : ∀ q : Nat, s.heap.size ≤ q → A q := fun q h => by rw [← hAe]; exact Or.inr h
  have hS : va_S A s.heap s.heap [] := va_S.rf
  have hl := lv_entry ([.ref rg, .int a1]) (n := 3) (Nat.le_of_ble_eq_true rfl)
  rw [lg_entry_eq]
  generalize (lg_sl ([.ref rg, .int a1]) ++ List.replicate (3 - (lg_sl ([.ref rg, .int a1])).length) Slot.unset).toArray = ls at hl ⊢
  have hl : lv_has ls 3 [(0, .ref rg), (1, .int a1)] := hl
  generalize hQ : MQ _ _ _ _ _ _ _ = Q
  obtain ⟨H, hHe⟩ : ∃ H : Heap, H = s.heap := ⟨_, rfl⟩
  obtain ⟨locs, hle⟩ : ∃ L : List Loc, L = [] := ⟨_, rfl⟩
  have hP : va_P D vwCl (kX1 cI rg wa v_wd) H := by rw [hHe]; exact hP
  have hS : va_S A s.heap H locs := by rw [hHe, hle]; exact hS
  refine kw_start hHe.symm hle.symm ?_
  have hf : fX1_half v_wd a1 = fX1_half v_wd a1 := rfl
  refine lv_aload_n hx hb dX1_half_0 rfl (lv_at hl 0 rfl) ?_
  refine va_get (D := D) (ci := 1) (v := .ref wa) (C := RX1) (T := TX1) (N := 1) hx hb hws inlX1 hown hK hP 0 rfl rfl 0 (by decide) (hws _ mw_38) (fun _ h9 => h9) rfl dX1_half_1 ?_
  refine lv_iload_n hx hb dX1_half_4 rfl (lv_at hl 1 rfl) ?_
  refine kc_Si (As := [.int a1]) (rest := [.ref wa]) ⟨hx, hb, hml, hown, hws⟩ hK hP hD hS hA hT (c_X1_pairOf l D H.size a1) (va_cwS 1 hws (gw_S mw_193 mw_194 mw_32 mw_195) rfl rfl rfl hdX1_pairOf.2 ⟨Nat.le_of_ble_eq_true rfl, Nat.le_of_ble_eq_true rfl⟩) rfl hl.1 rfl (Nat.le_of_ble_eq_true rfl) dX1_half_5 ⟨Nat.zero_le _, Nat.zero_le _⟩ (fun r1 H locs hwr1 hP hD hS => ?_)
  have hf := hf.trans (kE1 hwr1)
  refine va_iald hx hb hK hP 1 0 rfl rfl (by rw [hwr1]; exact ki_3_6 _) dX1_half_8 ?_
  refine lv_topi (fun x2 ex2 => ?_)
  have hf := hf.trans (kE1 ex2)
  refine lv_istore_n (lv' := [(2, .int x2), (0, .ref rg), (1, .int a1)]) hx hb dX1_half_9 rfl hl (by decide) rfl (fun ls hl => ?_)
  refine lv_iload_n hx hb dX1_half_10 rfl (lv_at hl 2 rfl) ?_
  refine kc_Si (As := [.int a1]) (rest := []) ⟨hx, hb, hml, hown, hws⟩ hK hP hD hS hA hT (c_X1_isHigh l D H.size a1) (va_cwS 1 hws (gw_S mw_196 mw_197 mw_32 mw_198) rfl rfl rfl hdX1_isHigh.2 ⟨Nat.le_of_ble_eq_true rfl, Nat.le_of_ble_eq_true rfl⟩) rfl hl.1 rfl (Nat.le_of_ble_eq_true rfl) dX1_half_11 ⟨Nat.zero_le _, Nat.zero_le _⟩ (fun r3 H locs hwr3 hP hD hS => ?_)
  obtain ⟨z4, rfl, hwr3⟩ := hwr3
  have hf := hf.trans (kE1 hwr3)
  refine lv_if_eq (tgt := 24) hx hb dX1_half_14 (by decide) (fun c5 => ?_) (fun c5 => ?_)
  · have hf := hf.trans (kt_eq c5)
    refine lv_iload_n hx hb dX1_half_24 rfl (lv_at hl 0 rfl) ?_
    refine lv_sipush (v := 255) hx hb dX1_half_25 (by decide) ?_
    refine lv_iand hx hb dX1_half_28 ?_
    rw [← hQ]
    exact W.iret (v := (x2 &&& (255 : Int32))) hx hb hr (fun t ht hW => ⟨⟨(x2 &&& (255 : Int32)), (), rfl, hf.symm, by rw [ht]; exact hP, va_K.moved hW.alike hK, hD⟩, hS.F ht⟩) hS.2.2 dX1_half_29
  · have hf := hf.trans (kf_eq c5)
    refine lv_iload_n hx hb dX1_half_17 rfl (lv_at hl 0 rfl) ?_
    refine lv_bipush (v := 8) hx hb dX1_half_18 (by decide) ?_
    refine lv_ishr hx hb dX1_half_20 ?_
    refine lv_goto (tgt := 29) hx hb dX1_half_21 (by decide) ?_
    rw [← hQ]
    exact W.iret (v := (x2 >>> ((8 : Int32) &&& (31 : Int32)))) hx hb hr (fun t ht hW => ⟨⟨(x2 >>> ((8 : Int32) &&& (31 : Int32))), (), rfl, hf.symm, by rw [ht]; exact hP, va_K.moved hW.alike hK, hD⟩, hS.F ht⟩) hS.2.2 dX1_half_29
def fX1_flag (v_wd : Nat → Int32) (a1 : Int32) : Bool := (kIf (kEq ((v_wd (0 : Int32).toNatClampNeg) &&& a1) (0 : Int32)) false true)
def rmX1_flag : Room := { frames := 0, cells := 0, slots := 0, locals := 0 }
def wwX1_flag : List Cond := Cond.code yX1_flag cX1_flag 2 (some .boolean) :: wsL_law
theorem hdX1_flag : yX1_flag.cls = RX1 ∧ yX1_flag.cls ≠ "java/lang/invoke/MethodHandle" ∧ yX1_flag.cls ≠ "java/lang/invoke/VarHandle" ∧ (parseMethodDescriptor yX1_flag.desc).map (fun d => d.parameters.length) = some 1 := by decide +kernel
set_option maxHeartbeats 4000000 in
set_option maxRecDepth 100000 in
theorem c_X1_flag (l : Launch) (D : va_G) (cI : ClassId) (rg wa sz : Nat) (v_wd : Nat → Int32) (a1 : Int32)  : Met l yX1_flag wwX1_flag rmX1_flag (va_Pc [.ref rg, .int a1] (kp D (kX1 cI rg wa v_wd) [(cI, .int)] sz)) (va_Qi (fun (r : Int32) (_ : Unit) => ∃ z9 : Bool, r = bI z9 ∧ z9 = fX1_flag v_wd a1) (fun _ t => kq D (kX1 cI rg wa v_wd) [(cI, .int)] (va_A (kX1 cI rg wa v_wd) sz) t) (va_A (kX1 cI rg wa v_wd) sz)) 0 0 (va_A (kX1 cI rg wa v_wd) sz) := by
  refine Met.ofW (cc := cX1_flag) (maxL := 2) (ret := (some .boolean)) (by decide) rfl ?_
  intro p e s m args below meth c s₁ B hml hv
  obtain ⟨rfl, hsz, hP, hK, hD0, hT⟩ := hv
  have hx := B.exec
  have hb := B.bytes
  have hr := B.returns
  have hts := atoms_spec (ws := wwX1_flag) B.pre
  have hws : ∀ w ∈ wsL_law, w.before _ s = true := fun w h => hts w (List.mem_cons_of_mem _ h)
  have hown : s.vm.findClass RX1 = some m.cls := findClass_of_methodNamed B.named
  have hlocks := B.notSynchronized
  subst hsz
  have hD := hD0.self (sz := s.heap.size)
  generalize hAe : va_A (kX1 cI rg wa v_wd) s.heap.size = A at hD hT ⊢
  have hA : ∀ q : Nat, s.heap.size ≤ q → A q := fun q h => by rw [← hAe]; exact Or.inr h
  have hS : va_S A s.heap s.heap [] := va_S.rf
  have hl := lv_entry ([.ref rg, .int a1]) (n := 2) (Nat.le_of_ble_eq_true rfl)
  rw [lg_entry_eq]
  generalize (lg_sl ([.ref rg, .int a1]) ++ List.replicate (2 - (lg_sl ([.ref rg, .int a1])).length) Slot.unset).toArray = ls at hl ⊢
  have hl : lv_has ls 2 [(0, .ref rg), (1, .int a1)] := hl
  generalize hQ : MQ _ _ _ _ _ _ _ = Q
  obtain ⟨H, hHe⟩ : ∃ H : Heap, H = s.heap := ⟨_, rfl⟩
  obtain ⟨locs, hle⟩ : ∃ L : List Loc, L = [] := ⟨_, rfl⟩
  have hP : va_P D vwCl (kX1 cI rg wa v_wd) H := by rw [hHe]; exact hP
  have hS : va_S A s.heap H locs := by rw [hHe, hle]; exact hS
  refine kw_start hHe.symm hle.symm ?_
  have hf : fX1_flag v_wd a1 = fX1_flag v_wd a1 := rfl
  refine lv_aload_n hx hb dX1_flag_0 rfl (lv_at hl 0 rfl) ?_
  refine va_get (D := D) (ci := 1) (v := .ref wa) (C := RX1) (T := TX1) (N := 1) hx hb hws inlX1 hown hK hP 0 rfl rfl 0 (by decide) (hws _ mw_38) (fun _ h9 => h9) rfl dX1_flag_1 ?_
  refine lv_iconst (v := 0) hx hb dX1_flag_4 (by decide) ?_
  refine va_iald hx hb hK hP 1 0 rfl rfl (by unfold vp_in; decide) dX1_flag_5 ?_
  refine lv_iload_n hx hb dX1_flag_6 rfl (lv_at hl 1 rfl) ?_
  refine lv_iand hx hb dX1_flag_7 ?_
  refine lv_if_eq (tgt := 15) hx hb dX1_flag_8 (by decide) (fun c1 => ?_) (fun c1 => ?_)
  · have hf := hf.trans (kt_eq c1)
    refine lv_iconst (v := 0) hx hb dX1_flag_15 (by decide) ?_
    rw [← hQ]
    exact W.zret (v := bI false) (ty := .boolean) hx hb hr (bI_nar _) (fun t ht hW => ⟨⟨bI false, (), rfl, ⟨false, rfl, hf.symm⟩, by rw [ht]; exact hP, va_K.moved hW.alike hK, hD⟩, hS.F ht⟩) hS.2.2 dX1_flag_16
  · have hf := hf.trans (kf_eq c1)
    refine lv_iconst (v := 1) hx hb dX1_flag_11 (by decide) ?_
    refine lv_goto (tgt := 16) hx hb dX1_flag_12 (by decide) ?_
    rw [← hQ]
    exact W.zret (v := bI true) (ty := .boolean) hx hb hr (bI_nar _) (fun t ht hW => ⟨⟨bI true, (), rfl, ⟨true, rfl, hf.symm⟩, by rw [ht]; exact hP, va_K.moved hW.alike hK, hD⟩, hS.F ht⟩) hS.2.2 dX1_flag_16
def fX1_setFlags (v_wd : Nat → Int32) (a1 : Bool) (a2 : Bool) (a3 : Bool) (a4 : Bool) : (Nat → Int32) := (kU1 (((kIf (kEq (bI a1) (0 : Int32)) (0 : Int32) (128 : Int32)) : Int32)) (fun (x2 : Int32) => (kU1 (((kIf (kEq (bI a2) (0 : Int32)) (0 : Int32) (64 : Int32)) : Int32)) (fun (x5 : Int32) => (kU1 (((kIf (kEq (bI a3) (0 : Int32)) (0 : Int32) (32 : Int32)) : Int32)) (fun (x8 : Int32) => (kU1 (((kIf (kEq (bI a4) (0 : Int32)) (0 : Int32) (16 : Int32)) : Int32)) (fun (x11 : Int32) => (kU1 ((((x2 ||| x5) ||| x8) ||| x11)) (fun (x13 : Int32) => (kU1 (upd v_wd (0 : Int32).toNatClampNeg (((v_wd (0 : Int32).toNatClampNeg) &&& (65280 : Int32)) ||| x13)) (fun (f14 : Nat → Int32) => f14))))))))))))
def rmX1_setFlags : Room := { frames := 0, cells := 0, slots := 0, locals := 0 }
def wwX1_setFlags : List Cond := Cond.code yX1_setFlags cX1_setFlags 6 none :: wsL_law
theorem hdX1_setFlags : yX1_setFlags.cls = RX1 ∧ yX1_setFlags.cls ≠ "java/lang/invoke/MethodHandle" ∧ yX1_setFlags.cls ≠ "java/lang/invoke/VarHandle" ∧ (parseMethodDescriptor yX1_setFlags.desc).map (fun d => d.parameters.length) = some 4 := by decide +kernel
set_option maxHeartbeats 4000000 in
set_option maxRecDepth 100000 in
theorem c_X1_setFlags (l : Launch) (D : va_G) (cI : ClassId) (rg wa sz : Nat) (v_wd : Nat → Int32) (a1 : Bool) (a2 : Bool) (a3 : Bool) (a4 : Bool)  : Met l yX1_setFlags wwX1_setFlags rmX1_setFlags (va_Pc [.ref rg, .int (bI a1), .int (bI a2), .int (bI a3), .int (bI a4)] (kp D (kX1 cI rg wa v_wd) [(cI, .int)] sz)) (va_Qv (fun (u9 : (Nat → Int32)) => u9 = fX1_setFlags v_wd a1 a2 a3 a4) (fun u9 t => kq D (kX1 cI rg wa u9) [(cI, .int)] (va_A (kX1 cI rg wa v_wd) sz) t) (va_A (kX1 cI rg wa v_wd) sz)) 0 0 (va_A (kX1 cI rg wa v_wd) sz) := by
  refine Met.ofW (cc := cX1_setFlags) (maxL := 6) (ret := none) (by decide) rfl ?_
  intro p e s m args below meth c s₁ B hml hv
  obtain ⟨rfl, hsz, hP, hK, hD0, hT⟩ := hv
  have hx := B.exec
  have hb := B.bytes
  have hr := B.returns
  have hts := atoms_spec (ws := wwX1_setFlags) B.pre
  have hws : ∀ w ∈ wsL_law, w.before _ s = true := fun w h => hts w (List.mem_cons_of_mem _ h)
  have hown : s.vm.findClass RX1 = some m.cls := findClass_of_methodNamed B.named
  have hlocks := B.notSynchronized
  subst hsz
  have hD := hD0.self (sz := s.heap.size)
  generalize hAe : va_A (kX1 cI rg wa v_wd) s.heap.size = A at hD hT ⊢
  have hA : ∀ q : Nat, s.heap.size ≤ q → A q := fun q h => by rw [← hAe]; exact Or.inr h
  have hS : va_S A s.heap s.heap [] := va_S.rf
  have hl := lv_entry ([.ref rg, .int (bI a1), .int (bI a2), .int (bI a3), .int (bI a4)]) (n := 6) (Nat.le_of_ble_eq_true rfl)
  rw [lg_entry_eq]
  generalize (lg_sl ([.ref rg, .int (bI a1), .int (bI a2), .int (bI a3), .int (bI a4)]) ++ List.replicate (6 - (lg_sl ([.ref rg, .int (bI a1), .int (bI a2), .int (bI a3), .int (bI a4)])).length) Slot.unset).toArray = ls at hl ⊢
  have hl : lv_has ls 6 [(0, .ref rg), (1, .int (bI a1)), (2, .int (bI a2)), (3, .int (bI a3)), (4, .int (bI a4))] := hl
  generalize hQ : MQ _ _ _ _ _ _ _ = Q
  obtain ⟨H, hHe⟩ : ∃ H : Heap, H = s.heap := ⟨_, rfl⟩
  obtain ⟨locs, hle⟩ : ∃ L : List Loc, L = [] := ⟨_, rfl⟩
  have hP : va_P D vwCl (kX1 cI rg wa v_wd) H := by rw [hHe]; exact hP
  have hS : va_S A s.heap H locs := by rw [hHe, hle]; exact hS
  refine kw_start hHe.symm hle.symm ?_
  have hf : fX1_setFlags v_wd a1 a2 a3 a4 = fX1_setFlags v_wd a1 a2 a3 a4 := rfl
  refine lv_iload_n hx hb dX1_setFlags_0 rfl (lv_at hl 1 rfl) ?_
  obtain ⟨TJ3, hTJ3⟩ : ∃ T9 : Int32, T9 = (kIf (kEq (bI a1) (0 : Int32)) (0 : Int32) (128 : Int32)) := ⟨_, rfl⟩
  have J3 : ∀ (x2 : Int32), x2 = TJ3 → ∀ (H : Heap) (locs : List Loc) (ls : Array Slot), lv_has ls 6 [(0, .ref rg), (1, .int (bI a1)), (2, .int (bI a2)), (3, .int (bI a3)), (4, .int (bI a4))] → va_P D vwCl (kX1 cI rg wa v_wd) H → va_D A (kX1 cI rg wa v_wd) → va_S A s.heap H locs → W p l e (headSpec wwX1_setFlags rmX1_setFlags).room s m ([.ref rg, .int (bI a1), .int (bI a2), .int (bI a3), .int (bI a4)] : List Value).toArray below meth c H locs 0 0 Q (F0 m 11 ls [.int x2]) := by
    intro x2 eJ3 H locs ls hl hP hD hS
    have hf := hf.trans (kE1 (eJ3.trans hTJ3))
    refine lv_iload_n hx hb dX1_setFlags_11 rfl (lv_at hl 2 rfl) ?_
    obtain ⟨TJ6, hTJ6⟩ : ∃ T9 : Int32, T9 = (kIf (kEq (bI a2) (0 : Int32)) (0 : Int32) (64 : Int32)) := ⟨_, rfl⟩
    have J6 : ∀ (x5 : Int32), x5 = TJ6 → ∀ (H : Heap) (locs : List Loc) (ls : Array Slot), lv_has ls 6 [(0, .ref rg), (1, .int (bI a1)), (2, .int (bI a2)), (3, .int (bI a3)), (4, .int (bI a4))] → va_P D vwCl (kX1 cI rg wa v_wd) H → va_D A (kX1 cI rg wa v_wd) → va_S A s.heap H locs → W p l e (headSpec wwX1_setFlags rmX1_setFlags).room s m ([.ref rg, .int (bI a1), .int (bI a2), .int (bI a3), .int (bI a4)] : List Value).toArray below meth c H locs 0 0 Q (F0 m 21 ls [.int x5, .int x2]) := by
      intro x5 eJ6 H locs ls hl hP hD hS
      have hf := hf.trans (kE1 (eJ6.trans hTJ6))
      refine lv_ior hx hb dX1_setFlags_21 ?_
      refine lv_iload_n hx hb dX1_setFlags_22 rfl (lv_at hl 3 rfl) ?_
      obtain ⟨TJ9, hTJ9⟩ : ∃ T9 : Int32, T9 = (kIf (kEq (bI a3) (0 : Int32)) (0 : Int32) (32 : Int32)) := ⟨_, rfl⟩
      have J9 : ∀ (x8 : Int32), x8 = TJ9 → ∀ (H : Heap) (locs : List Loc) (ls : Array Slot), lv_has ls 6 [(0, .ref rg), (1, .int (bI a1)), (2, .int (bI a2)), (3, .int (bI a3)), (4, .int (bI a4))] → va_P D vwCl (kX1 cI rg wa v_wd) H → va_D A (kX1 cI rg wa v_wd) → va_S A s.heap H locs → W p l e (headSpec wwX1_setFlags rmX1_setFlags).room s m ([.ref rg, .int (bI a1), .int (bI a2), .int (bI a3), .int (bI a4)] : List Value).toArray below meth c H locs 0 0 Q (F0 m 32 ls [.int x8, .int (x2 ||| x5)]) := by
        intro x8 eJ9 H locs ls hl hP hD hS
        have hf := hf.trans (kE1 (eJ9.trans hTJ9))
        refine lv_ior hx hb dX1_setFlags_32 ?_
        refine lv_iload hx hb dX1_setFlags_33 (lv_at hl 4 rfl) ?_
        obtain ⟨TJ12, hTJ12⟩ : ∃ T9 : Int32, T9 = (kIf (kEq (bI a4) (0 : Int32)) (0 : Int32) (16 : Int32)) := ⟨_, rfl⟩
        have J12 : ∀ (x11 : Int32), x11 = TJ12 → ∀ (H : Heap) (locs : List Loc) (ls : Array Slot), lv_has ls 6 [(0, .ref rg), (1, .int (bI a1)), (2, .int (bI a2)), (3, .int (bI a3)), (4, .int (bI a4))] → va_P D vwCl (kX1 cI rg wa v_wd) H → va_D A (kX1 cI rg wa v_wd) → va_S A s.heap H locs → W p l e (headSpec wwX1_setFlags rmX1_setFlags).room s m ([.ref rg, .int (bI a1), .int (bI a2), .int (bI a3), .int (bI a4)] : List Value).toArray below meth c H locs 0 0 Q (F0 m 44 ls [.int x11, .int ((x2 ||| x5) ||| x8)]) := by
          intro x11 eJ12 H locs ls hl hP hD hS
          have hf := hf.trans (kE1 (eJ12.trans hTJ12))
          refine lv_ior hx hb dX1_setFlags_44 ?_
          refine lv_topi (fun x13 ex13 => ?_)
          have hf := hf.trans (kE1 ex13)
          refine lv_istore (lv' := [(5, .int x13), (0, .ref rg), (1, .int (bI a1)), (2, .int (bI a2)), (3, .int (bI a3)), (4, .int (bI a4))]) hx hb dX1_setFlags_45 hl (by decide) rfl (fun ls hl => ?_)
          refine lv_aload_n hx hb dX1_setFlags_47 rfl (lv_at hl 1 rfl) ?_
          refine va_get (D := D) (ci := 1) (v := .ref wa) (C := RX1) (T := TX1) (N := 1) hx hb hws inlX1 hown hK hP 0 rfl rfl 0 (by decide) (hws _ mw_38) (fun _ h9 => h9) rfl dX1_setFlags_48 ?_
          refine lv_iconst (v := 0) hx hb dX1_setFlags_51 (by decide) ?_
          refine lv_aload_n hx hb dX1_setFlags_52 rfl (lv_at hl 1 rfl) ?_
          refine va_get (D := D) (ci := 1) (v := .ref wa) (C := RX1) (T := TX1) (N := 1) hx hb hws inlX1 hown hK hP 0 rfl rfl 0 (by decide) (hws _ mw_38) (fun _ h9 => h9) rfl dX1_setFlags_53 ?_
          refine lv_iconst (v := 0) hx hb dX1_setFlags_56 (by decide) ?_
          refine va_iald hx hb hK hP 1 0 rfl rfl (by unfold vp_in; decide) dX1_setFlags_57 ?_
          refine lv_ldc (v := 65280) hx hb hown (hws _ mw_214) dX1_setFlags_58 ?_
          refine lv_iand hx hb dX1_setFlags_60 ?_
          refine lv_iload hx hb dX1_setFlags_61 (lv_at hl 0 rfl) ?_
          refine lv_ior hx hb dX1_setFlags_63 ?_
          refine va_iast hx hb hK hP hD hS 1 0 rfl rfl (by unfold vp_in; decide) dX1_setFlags_64 (fun H locs hP hD hS => ?_)
          obtain ⟨f14, ef14⟩ : ∃ f9 : Nat → Int32, f9 = upd v_wd (0 : Int32).toNatClampNeg (((v_wd (0 : Int32).toNatClampNeg) &&& (65280 : Int32)) ||| x13) := ⟨_, rfl⟩
          have hf := hf.trans (kE1 ef14)
          have hP : va_P D vwCl (kX1 cI rg wa f14) H := by rw [ef14]; exact hP
          have hD : va_D A (kX1 cI rg wa f14) := by rw [ef14]; exact hD
          rw [← hQ]
          exact W.vret hx hb hr (fun t ht hW => ⟨⟨f14, rfl, hf.symm, by rw [ht]; exact hP, va_K.moved hW.alike hK, hD⟩, hS.F ht⟩) hS.2.2 dX1_setFlags_65
        have hf := hTJ12
        refine lv_if_eq (tgt := 43) hx hb dX1_setFlags_35 (by decide) (fun c10 => ?_) (fun c10 => ?_)
        · have hf := hf.trans (kt_eq c10)
          refine lv_iconst (v := 0) hx hb dX1_setFlags_43 (by decide) ?_
          exact J12 (0 : Int32) hf.symm H locs ls (lv_sub hl [0, 1, 2, 3, 4] rfl) hP hD hS
        · have hf := hf.trans (kf_eq c10)
          refine lv_bipush (v := 16) hx hb dX1_setFlags_38 (by decide) ?_
          refine lv_goto (tgt := 44) hx hb dX1_setFlags_40 (by decide) ?_
          exact J12 (16 : Int32) hf.symm H locs ls (lv_sub hl [0, 1, 2, 3, 4] rfl) hP hD hS
      have hf := hTJ9
      refine lv_if_eq (tgt := 31) hx hb dX1_setFlags_23 (by decide) (fun c7 => ?_) (fun c7 => ?_)
      · have hf := hf.trans (kt_eq c7)
        refine lv_iconst (v := 0) hx hb dX1_setFlags_31 (by decide) ?_
        exact J9 (0 : Int32) hf.symm H locs ls (lv_sub hl [0, 1, 2, 3, 4] rfl) hP hD hS
      · have hf := hf.trans (kf_eq c7)
        refine lv_bipush (v := 32) hx hb dX1_setFlags_26 (by decide) ?_
        refine lv_goto (tgt := 32) hx hb dX1_setFlags_28 (by decide) ?_
        exact J9 (32 : Int32) hf.symm H locs ls (lv_sub hl [0, 1, 2, 3, 4] rfl) hP hD hS
    have hf := hTJ6
    refine lv_if_eq (tgt := 20) hx hb dX1_setFlags_12 (by decide) (fun c4 => ?_) (fun c4 => ?_)
    · have hf := hf.trans (kt_eq c4)
      refine lv_iconst (v := 0) hx hb dX1_setFlags_20 (by decide) ?_
      exact J6 (0 : Int32) hf.symm H locs ls (lv_sub hl [0, 1, 2, 3, 4] rfl) hP hD hS
    · have hf := hf.trans (kf_eq c4)
      refine lv_bipush (v := 64) hx hb dX1_setFlags_15 (by decide) ?_
      refine lv_goto (tgt := 21) hx hb dX1_setFlags_17 (by decide) ?_
      exact J6 (64 : Int32) hf.symm H locs ls (lv_sub hl [0, 1, 2, 3, 4] rfl) hP hD hS
  have hf := hTJ3
  refine lv_if_eq (tgt := 10) hx hb dX1_setFlags_1 (by decide) (fun c1 => ?_) (fun c1 => ?_)
  · have hf := hf.trans (kt_eq c1)
    refine lv_iconst (v := 0) hx hb dX1_setFlags_10 (by decide) ?_
    exact J3 (0 : Int32) hf.symm H locs ls (lv_sub hl [0, 1, 2, 3, 4] rfl) hP hD hS
  · have hf := hf.trans (kf_eq c1)
    refine lv_sipush (v := 128) hx hb dX1_setFlags_4 (by decide) ?_
    refine lv_goto (tgt := 11) hx hb dX1_setFlags_7 (by decide) ?_
    exact J3 (128 : Int32) hf.symm H locs ls (lv_sub hl [0, 1, 2, 3, 4] rfl) hP hD hS
def fX1_setHalf (v_wd : Nat → Int32) (a1 : Int32) (a2 : Int32) : (Nat → Int32) := (kU1 (fX1_pairOf a1) (fun (r1 : Int32) => (kU1 ((a2 &&& (255 : Int32))) (fun (x2 : Int32) => (kU1 (fX1_isHigh a1) (fun (z4 : Bool) => (kU1 (((kIf (kEq (bI z4) (0 : Int32)) (((v_wd r1.toNatClampNeg) &&& (65280 : Int32)) ||| x2) ((x2 <<< ((8 : Int32) &&& (31 : Int32))) ||| ((v_wd r1.toNatClampNeg) &&& (255 : Int32)))) : Int32)) (fun (x6 : Int32) => (kU1 (upd v_wd r1.toNatClampNeg x6) (fun (f8 : Nat → Int32) => f8))))))))))
def rmX1_setHalf : Room := { frames := 1, cells := 0, slots := 0, locals := 20 }
def wwX1_setHalf : List Cond := Cond.code yX1_setHalf cX1_setHalf 5 none :: wsL_law
theorem hdX1_setHalf : yX1_setHalf.cls = RX1 ∧ yX1_setHalf.cls ≠ "java/lang/invoke/MethodHandle" ∧ yX1_setHalf.cls ≠ "java/lang/invoke/VarHandle" ∧ (parseMethodDescriptor yX1_setHalf.desc).map (fun d => d.parameters.length) = some 2 := by decide +kernel
set_option maxHeartbeats 4000000 in
set_option maxRecDepth 100000 in
theorem c_X1_setHalf (l : Launch) (D : va_G) (cI : ClassId) (rg wa sz : Nat) (v_wd : Nat → Int32) (a1 : Int32) (a2 : Int32)  : Met l yX1_setHalf wwX1_setHalf rmX1_setHalf (va_Pc [.ref rg, .int a1, .int a2] (kp D (kX1 cI rg wa v_wd) [(cI, .int)] sz)) (va_Qv (fun (u9 : (Nat → Int32)) => u9 = fX1_setHalf v_wd a1 a2) (fun u9 t => kq D (kX1 cI rg wa u9) [(cI, .int)] (va_A (kX1 cI rg wa v_wd) sz) t) (va_A (kX1 cI rg wa v_wd) sz)) 0 0 (va_A (kX1 cI rg wa v_wd) sz) := by
  refine Met.ofW (cc := cX1_setHalf) (maxL := 5) (ret := none) (by decide) rfl ?_
  intro p e s m args below meth c s₁ B hml hv
  obtain ⟨rfl, hsz, hP, hK, hD0, hT⟩ := hv
  have hx := B.exec
  have hb := B.bytes
  have hr := B.returns
  have hts := atoms_spec (ws := wwX1_setHalf) B.pre
  have hws : ∀ w ∈ wsL_law, w.before _ s = true := fun w h => hts w (List.mem_cons_of_mem _ h)
  have hown : s.vm.findClass RX1 = some m.cls := findClass_of_methodNamed B.named
  have hlocks := B.notSynchronized
  subst hsz
  have hD := hD0.self (sz := s.heap.size)
  generalize hAe : va_A (kX1 cI rg wa v_wd) s.heap.size = A at hD hT ⊢
  have hA : ∀ q : Nat, s.heap.size ≤ q → A q := fun q h => by rw [← hAe]; exact Or.inr h
  have hS : va_S A s.heap s.heap [] := va_S.rf
  have hl := lv_entry ([.ref rg, .int a1, .int a2]) (n := 5) (Nat.le_of_ble_eq_true rfl)
  rw [lg_entry_eq]
  generalize (lg_sl ([.ref rg, .int a1, .int a2]) ++ List.replicate (5 - (lg_sl ([.ref rg, .int a1, .int a2])).length) Slot.unset).toArray = ls at hl ⊢
  have hl : lv_has ls 5 [(0, .ref rg), (1, .int a1), (2, .int a2)] := hl
  generalize hQ : MQ _ _ _ _ _ _ _ = Q
  obtain ⟨H, hHe⟩ : ∃ H : Heap, H = s.heap := ⟨_, rfl⟩
  obtain ⟨locs, hle⟩ : ∃ L : List Loc, L = [] := ⟨_, rfl⟩
  have hP : va_P D vwCl (kX1 cI rg wa v_wd) H := by rw [hHe]; exact hP
  have hS : va_S A s.heap H locs := by rw [hHe, hle]; exact hS
  refine kw_start hHe.symm hle.symm ?_
  have hf : fX1_setHalf v_wd a1 a2 = fX1_setHalf v_wd a1 a2 := rfl
  refine lv_iload_n hx hb dX1_setHalf_0 rfl (lv_at hl 1 rfl) ?_
  refine kc_Si (As := [.int a1]) (rest := []) ⟨hx, hb, hml, hown, hws⟩ hK hP hD hS hA hT (c_X1_pairOf l D H.size a1) (va_cwS 1 hws (gw_S mw_193 mw_194 mw_32 mw_195) rfl rfl rfl hdX1_pairOf.2 ⟨Nat.le_of_ble_eq_true rfl, Nat.le_of_ble_eq_true rfl⟩) rfl hl.1 rfl (Nat.le_of_ble_eq_true rfl) dX1_setHalf_1 ⟨Nat.zero_le _, Nat.zero_le _⟩ (fun r1 H locs hwr1 hP hD hS => ?_)
  have hf := hf.trans (kE1 hwr1)
  refine lv_istore_n (lv' := [(3, .int r1), (0, .ref rg), (1, .int a1), (2, .int a2)]) hx hb dX1_setHalf_4 rfl hl (by decide) rfl (fun ls hl => ?_)
  refine lv_iload_n hx hb dX1_setHalf_5 rfl (lv_at hl 3 rfl) ?_
  refine lv_sipush (v := 255) hx hb dX1_setHalf_6 (by decide) ?_
  refine lv_iand hx hb dX1_setHalf_9 ?_
  refine lv_topi (fun x2 ex2 => ?_)
  have hf := hf.trans (kE1 ex2)
  refine lv_istore (lv' := [(4, .int x2), (3, .int r1), (0, .ref rg), (1, .int a1), (2, .int a2)]) hx hb dX1_setHalf_10 hl (by decide) rfl (fun ls hl => ?_)
  refine lv_aload_n hx hb dX1_setHalf_12 rfl (lv_at hl 2 rfl) ?_
  refine va_get (D := D) (ci := 1) (v := .ref wa) (C := RX1) (T := TX1) (N := 1) hx hb hws inlX1 hown hK hP 0 rfl rfl 0 (by decide) (hws _ mw_38) (fun _ h9 => h9) rfl dX1_setHalf_13 ?_
  refine lv_iload_n hx hb dX1_setHalf_16 rfl (lv_at hl 1 rfl) ?_
  refine lv_iload_n hx hb dX1_setHalf_17 rfl (lv_at hl 3 rfl) ?_
  refine kc_Si (As := [.int a1]) (rest := [.int r1, .ref wa]) ⟨hx, hb, hml, hown, hws⟩ hK hP hD hS hA hT (c_X1_isHigh l D H.size a1) (va_cwS 1 hws (gw_S mw_196 mw_197 mw_32 mw_198) rfl rfl rfl hdX1_isHigh.2 ⟨Nat.le_of_ble_eq_true rfl, Nat.le_of_ble_eq_true rfl⟩) rfl hl.1 rfl (Nat.le_of_ble_eq_true rfl) dX1_setHalf_18 ⟨Nat.zero_le _, Nat.zero_le _⟩ (fun r3 H locs hwr3 hP hD hS => ?_)
  obtain ⟨z4, rfl, hwr3⟩ := hwr3
  have hf := hf.trans (kE1 hwr3)
  obtain ⟨TJ7, hTJ7⟩ : ∃ T9 : Int32, T9 = (kIf (kEq (bI z4) (0 : Int32)) (((v_wd r1.toNatClampNeg) &&& (65280 : Int32)) ||| x2) ((x2 <<< ((8 : Int32) &&& (31 : Int32))) ||| ((v_wd r1.toNatClampNeg) &&& (255 : Int32)))) := ⟨_, rfl⟩
  have J7 : ∀ (x6 : Int32), x6 = TJ7 → ∀ (H : Heap) (locs : List Loc) (ls : Array Slot), lv_has ls 5 [(4, .int x2), (3, .int r1), (0, .ref rg), (1, .int a1), (2, .int a2)] → va_P D vwCl (kX1 cI rg wa v_wd) H → va_D A (kX1 cI rg wa v_wd) → va_S A s.heap H locs → W p l e (headSpec wwX1_setHalf rmX1_setHalf).room s m ([.ref rg, .int a1, .int a2] : List Value).toArray below meth c H locs 0 0 Q (F0 m 55 ls [.int x6, .int r1, .ref wa]) := by
    intro x6 eJ7 H locs ls hl hP hD hS
    have hf := hf.trans (kE1 (eJ7.trans hTJ7))
    refine va_iast hx hb hK hP hD hS 1 0 rfl rfl (by rw [hwr1]; exact ki_3_6 _) dX1_setHalf_55 (fun H locs hP hD hS => ?_)
    obtain ⟨f8, ef8⟩ : ∃ f9 : Nat → Int32, f9 = upd v_wd r1.toNatClampNeg x6 := ⟨_, rfl⟩
    have hf := hf.trans (kE1 ef8)
    have hP : va_P D vwCl (kX1 cI rg wa f8) H := by rw [ef8]; exact hP
    have hD : va_D A (kX1 cI rg wa f8) := by rw [ef8]; exact hD
    rw [← hQ]
    exact W.vret hx hb hr (fun t ht hW => ⟨⟨f8, rfl, hf.symm, by rw [ht]; exact hP, va_K.moved hW.alike hK, hD⟩, hS.F ht⟩) hS.2.2 dX1_setHalf_56
  have hf := hTJ7
  refine lv_if_eq (tgt := 43) hx hb dX1_setHalf_21 (by decide) (fun c5 => ?_) (fun c5 => ?_)
  · have hf := hf.trans (kt_eq c5)
    refine lv_aload_n hx hb dX1_setHalf_43 rfl (lv_at hl 2 rfl) ?_
    refine va_get (D := D) (ci := 1) (v := .ref wa) (C := RX1) (T := TX1) (N := 1) hx hb hws inlX1 hown hK hP 0 rfl rfl 0 (by decide) (hws _ mw_38) (fun _ h9 => h9) rfl dX1_setHalf_44 ?_
    refine lv_iload_n hx hb dX1_setHalf_47 rfl (lv_at hl 1 rfl) ?_
    refine va_iald hx hb hK hP 1 0 rfl rfl (by rw [hwr1]; exact ki_3_6 _) dX1_setHalf_48 ?_
    refine lv_ldc (v := 65280) hx hb hown (hws _ mw_214) dX1_setHalf_49 ?_
    refine lv_iand hx hb dX1_setHalf_51 ?_
    refine lv_iload hx hb dX1_setHalf_52 (lv_at hl 0 rfl) ?_
    refine lv_ior hx hb dX1_setHalf_54 ?_
    exact J7 (((v_wd r1.toNatClampNeg) &&& (65280 : Int32)) ||| x2) hf.symm H locs ls (lv_sub hl [0, 1, 2, 3, 4] rfl) hP hD hS
  · have hf := hf.trans (kf_eq c5)
    refine lv_iload hx hb dX1_setHalf_24 (lv_at hl 0 rfl) ?_
    refine lv_bipush (v := 8) hx hb dX1_setHalf_26 (by decide) ?_
    refine lv_ishl hx hb dX1_setHalf_28 ?_
    refine lv_aload_n hx hb dX1_setHalf_29 rfl (lv_at hl 2 rfl) ?_
    refine va_get (D := D) (ci := 1) (v := .ref wa) (C := RX1) (T := TX1) (N := 1) hx hb hws inlX1 hown hK hP 0 rfl rfl 0 (by decide) (hws _ mw_38) (fun _ h9 => h9) rfl dX1_setHalf_30 ?_
    refine lv_iload_n hx hb dX1_setHalf_33 rfl (lv_at hl 1 rfl) ?_
    refine va_iald hx hb hK hP 1 0 rfl rfl (by rw [hwr1]; exact ki_3_6 _) dX1_setHalf_34 ?_
    refine lv_sipush (v := 255) hx hb dX1_setHalf_35 (by decide) ?_
    refine lv_iand hx hb dX1_setHalf_38 ?_
    refine lv_ior hx hb dX1_setHalf_39 ?_
    refine lv_goto (tgt := 55) hx hb dX1_setHalf_40 (by decide) ?_
    exact J7 ((x2 <<< ((8 : Int32) &&& (31 : Int32))) ||| ((v_wd r1.toNatClampNeg) &&& (255 : Int32))) hf.symm H locs ls (lv_sub hl [0, 1, 2, 3, 4] rfl) hP hD hS
def fX1_a (v_wd : Nat → Int32)  : Int32 := ((v_wd (0 : Int32).toNatClampNeg) >>> ((8 : Int32) &&& (31 : Int32)))
def rmX1_a : Room := { frames := 0, cells := 0, slots := 0, locals := 0 }
def wwX1_a : List Cond := Cond.code yX1_a cX1_a 1 (some .int) :: wsL_law
theorem hdX1_a : yX1_a.cls = RX1 ∧ yX1_a.cls ≠ "java/lang/invoke/MethodHandle" ∧ yX1_a.cls ≠ "java/lang/invoke/VarHandle" ∧ (parseMethodDescriptor yX1_a.desc).map (fun d => d.parameters.length) = some 0 := by decide +kernel
set_option maxHeartbeats 4000000 in
set_option maxRecDepth 100000 in
theorem c_X1_a (l : Launch) (D : va_G) (cI : ClassId) (rg wa sz : Nat) (v_wd : Nat → Int32)   : Met l yX1_a wwX1_a rmX1_a (va_Pc [.ref rg] (kp D (kX1 cI rg wa v_wd) [(cI, .int)] sz)) (va_Qi (fun (r : Int32) (_ : Unit) => r = fX1_a v_wd) (fun _ t => kq D (kX1 cI rg wa v_wd) [(cI, .int)] (va_A (kX1 cI rg wa v_wd) sz) t) (va_A (kX1 cI rg wa v_wd) sz)) 0 0 (va_A (kX1 cI rg wa v_wd) sz) := by
  refine Met.ofW (cc := cX1_a) (maxL := 1) (ret := (some .int)) (by decide) rfl ?_
  intro p e s m args below meth c s₁ B hml hv
  obtain ⟨rfl, hsz, hP, hK, hD0, hT⟩ := hv
  have hx := B.exec
  have hb := B.bytes
  have hr := B.returns
  have hts := atoms_spec (ws := wwX1_a) B.pre
  have hws : ∀ w ∈ wsL_law, w.before _ s = true := fun w h => hts w (List.mem_cons_of_mem _ h)
  have hown : s.vm.findClass RX1 = some m.cls := findClass_of_methodNamed B.named
  have hlocks := B.notSynchronized
  subst hsz
  have hD := hD0.self (sz := s.heap.size)
  generalize hAe : va_A (kX1 cI rg wa v_wd) s.heap.size = A at hD hT ⊢
  have hA : ∀ q : Nat, s.heap.size ≤ q → A q := fun q h => by rw [← hAe]; exact Or.inr h
  have hS : va_S A s.heap s.heap [] := va_S.rf
  have hl := lv_entry ([.ref rg]) (n := 1) (Nat.le_of_ble_eq_true rfl)
  rw [lg_entry_eq]
  generalize (lg_sl ([.ref rg]) ++ List.replicate (1 - (lg_sl ([.ref rg])).length) Slot.unset).toArray = ls at hl ⊢
  have hl : lv_has ls 1 [(0, .ref rg)] := hl
  generalize hQ : MQ _ _ _ _ _ _ _ = Q
  obtain ⟨H, hHe⟩ : ∃ H : Heap, H = s.heap := ⟨_, rfl⟩
  obtain ⟨locs, hle⟩ : ∃ L : List Loc, L = [] := ⟨_, rfl⟩
  have hP : va_P D vwCl (kX1 cI rg wa v_wd) H := by rw [hHe]; exact hP
  have hS : va_S A s.heap H locs := by rw [hHe, hle]; exact hS
  refine kw_start hHe.symm hle.symm ?_
  have hf : fX1_a v_wd = fX1_a v_wd := rfl
  refine lv_aload_n hx hb dX1_a_0 rfl (lv_at hl 0 rfl) ?_
  refine va_get (D := D) (ci := 1) (v := .ref wa) (C := RX1) (T := TX1) (N := 1) hx hb hws inlX1 hown hK hP 0 rfl rfl 0 (by decide) (hws _ mw_38) (fun _ h9 => h9) rfl dX1_a_1 ?_
  refine lv_iconst (v := 0) hx hb dX1_a_4 (by decide) ?_
  refine va_iald hx hb hK hP 1 0 rfl rfl (by unfold vp_in; decide) dX1_a_5 ?_
  refine lv_bipush (v := 8) hx hb dX1_a_6 (by decide) ?_
  refine lv_ishr hx hb dX1_a_8 ?_
  rw [← hQ]
  exact W.iret (v := ((v_wd (0 : Int32).toNatClampNeg) >>> ((8 : Int32) &&& (31 : Int32)))) hx hb hr (fun t ht hW => ⟨⟨((v_wd (0 : Int32).toNatClampNeg) >>> ((8 : Int32) &&& (31 : Int32))), (), rfl, hf.symm, by rw [ht]; exact hP, va_K.moved hW.alike hK, hD⟩, hS.F ht⟩) hS.2.2 dX1_a_9
def fX1_setA (v_wd : Nat → Int32) (a1 : Int32) : (Nat → Int32) := (kU1 (upd v_wd (0 : Int32).toNatClampNeg (((a1 &&& (255 : Int32)) <<< ((8 : Int32) &&& (31 : Int32))) ||| ((v_wd (0 : Int32).toNatClampNeg) &&& (255 : Int32)))) (fun (f1 : Nat → Int32) => f1))
def rmX1_setA : Room := { frames := 0, cells := 0, slots := 0, locals := 0 }
def wwX1_setA : List Cond := Cond.code yX1_setA cX1_setA 2 none :: wsL_law
theorem hdX1_setA : yX1_setA.cls = RX1 ∧ yX1_setA.cls ≠ "java/lang/invoke/MethodHandle" ∧ yX1_setA.cls ≠ "java/lang/invoke/VarHandle" ∧ (parseMethodDescriptor yX1_setA.desc).map (fun d => d.parameters.length) = some 1 := by decide +kernel
set_option maxHeartbeats 4000000 in
set_option maxRecDepth 100000 in
theorem c_X1_setA (l : Launch) (D : va_G) (cI : ClassId) (rg wa sz : Nat) (v_wd : Nat → Int32) (a1 : Int32)  : Met l yX1_setA wwX1_setA rmX1_setA (va_Pc [.ref rg, .int a1] (kp D (kX1 cI rg wa v_wd) [(cI, .int)] sz)) (va_Qv (fun (u9 : (Nat → Int32)) => u9 = fX1_setA v_wd a1) (fun u9 t => kq D (kX1 cI rg wa u9) [(cI, .int)] (va_A (kX1 cI rg wa v_wd) sz) t) (va_A (kX1 cI rg wa v_wd) sz)) 0 0 (va_A (kX1 cI rg wa v_wd) sz) := by
  refine Met.ofW (cc := cX1_setA) (maxL := 2) (ret := none) (by decide) rfl ?_
  intro p e s m args below meth c s₁ B hml hv
  obtain ⟨rfl, hsz, hP, hK, hD0, hT⟩ := hv
  have hx := B.exec
  have hb := B.bytes
  have hr := B.returns
  have hts := atoms_spec (ws := wwX1_setA) B.pre
  have hws : ∀ w ∈ wsL_law, w.before _ s = true := fun w h => hts w (List.mem_cons_of_mem _ h)
  have hown : s.vm.findClass RX1 = some m.cls := findClass_of_methodNamed B.named
  have hlocks := B.notSynchronized
  subst hsz
  have hD := hD0.self (sz := s.heap.size)
  generalize hAe : va_A (kX1 cI rg wa v_wd) s.heap.size = A at hD hT ⊢
  have hA : ∀ q : Nat, s.heap.size ≤ q → A q := fun q h => by rw [← hAe]; exact Or.inr h
  have hS : va_S A s.heap s.heap [] := va_S.rf
  have hl := lv_entry ([.ref rg, .int a1]) (n := 2) (Nat.le_of_ble_eq_true rfl)
  rw [lg_entry_eq]
  generalize (lg_sl ([.ref rg, .int a1]) ++ List.replicate (2 - (lg_sl ([.ref rg, .int a1])).length) Slot.unset).toArray = ls at hl ⊢
  have hl : lv_has ls 2 [(0, .ref rg), (1, .int a1)] := hl
  generalize hQ : MQ _ _ _ _ _ _ _ = Q
  obtain ⟨H, hHe⟩ : ∃ H : Heap, H = s.heap := ⟨_, rfl⟩
  obtain ⟨locs, hle⟩ : ∃ L : List Loc, L = [] := ⟨_, rfl⟩
  have hP : va_P D vwCl (kX1 cI rg wa v_wd) H := by rw [hHe]; exact hP
  have hS : va_S A s.heap H locs := by rw [hHe, hle]; exact hS
  refine kw_start hHe.symm hle.symm ?_
  have hf : fX1_setA v_wd a1 = fX1_setA v_wd a1 := rfl
  refine lv_aload_n hx hb dX1_setA_0 rfl (lv_at hl 0 rfl) ?_
  refine va_get (D := D) (ci := 1) (v := .ref wa) (C := RX1) (T := TX1) (N := 1) hx hb hws inlX1 hown hK hP 0 rfl rfl 0 (by decide) (hws _ mw_38) (fun _ h9 => h9) rfl dX1_setA_1 ?_
  refine lv_iconst (v := 0) hx hb dX1_setA_4 (by decide) ?_
  refine lv_iload_n hx hb dX1_setA_5 rfl (lv_at hl 1 rfl) ?_
  refine lv_sipush (v := 255) hx hb dX1_setA_6 (by decide) ?_
  refine lv_iand hx hb dX1_setA_9 ?_
  refine lv_bipush (v := 8) hx hb dX1_setA_10 (by decide) ?_
  refine lv_ishl hx hb dX1_setA_12 ?_
  refine lv_aload_n hx hb dX1_setA_13 rfl (lv_at hl 0 rfl) ?_
  refine va_get (D := D) (ci := 1) (v := .ref wa) (C := RX1) (T := TX1) (N := 1) hx hb hws inlX1 hown hK hP 0 rfl rfl 0 (by decide) (hws _ mw_38) (fun _ h9 => h9) rfl dX1_setA_14 ?_
  refine lv_iconst (v := 0) hx hb dX1_setA_17 (by decide) ?_
  refine va_iald hx hb hK hP 1 0 rfl rfl (by unfold vp_in; decide) dX1_setA_18 ?_
  refine lv_sipush (v := 255) hx hb dX1_setA_19 (by decide) ?_
  refine lv_iand hx hb dX1_setA_22 ?_
  refine lv_ior hx hb dX1_setA_23 ?_
  refine va_iast hx hb hK hP hD hS 1 0 rfl rfl (by unfold vp_in; decide) dX1_setA_24 (fun H locs hP hD hS => ?_)
  obtain ⟨f1, ef1⟩ : ∃ f9 : Nat → Int32, f9 = upd v_wd (0 : Int32).toNatClampNeg (((a1 &&& (255 : Int32)) <<< ((8 : Int32) &&& (31 : Int32))) ||| ((v_wd (0 : Int32).toNatClampNeg) &&& (255 : Int32))) := ⟨_, rfl⟩
  have hf := hf.trans (kE1 ef1)
  have hP : va_P D vwCl (kX1 cI rg wa f1) H := by rw [ef1]; exact hP
  have hD : va_D A (kX1 cI rg wa f1) := by rw [ef1]; exact hD
  rw [← hQ]
  exact W.vret hx hb hr (fun t ht hW => ⟨⟨f1, rfl, hf.symm, by rw [ht]; exact hP, va_K.moved hW.alike hK, hD⟩, hS.F ht⟩) hS.2.2 dX1_setA_25
