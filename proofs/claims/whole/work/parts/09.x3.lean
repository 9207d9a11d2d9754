def fX3_poke (v_by : Nat → Int32) (a1 : Int32) (a2 : Int32) : Bool × (Nat → Int32) := (kIf (kLt a1 (0 : Int32)) (false, v_by) (kIf (kLe a1 (65535 : Int32)) (kU1 (fX0_store v_by a1 a2) (fun (b3 : Nat → Int32) => (true, b3))) (false, v_by)))
def rmX3_poke : Room := { frames := 1, cells := 0, slots := 0, locals := 22 }
def wwX3_poke : List Cond := Cond.code yX3_poke cX3_poke 3 (some .boolean) :: wsL_law
theorem hdX3_poke : yX3_poke.cls = RX3 ∧ yX3_poke.cls ≠ "java/lang/invoke/MethodHandle" ∧ yX3_poke.cls ≠ "java/lang/invoke/VarHandle" ∧ (parseMethodDescriptor yX3_poke.desc).map (fun d => d.parameters.length) = some 2 := by decide +kernel
set_option maxHeartbeats 4000000 in
set_option maxRecDepth 100000 in
theorem c_X3_poke (l : Launch) (D : va_G) (cB : ClassId) (cI : ClassId) (gc me ba rg wa sm sz : Nat) (v_im : Bool) (v_ei : Bool) (v_ha : Bool) (v_hb : Bool) (v_cy : Int32) (v_by : Nat → Int32) (v_ct : Int32) (v_wd : Nat → Int32) (a1 : Int32) (a2 : Int32)  : Met l yX3_poke wwX3_poke rmX3_poke (va_Pc [.ref gc, .int a1, .int a2] (kp D (kX3 cB cI gc me ba rg wa sm v_im v_ei v_ha v_hb v_cy v_by v_ct v_wd) [(cB, .byte), (cI, .int)] sz)) (va_Qi (fun (r : Int32) (u9 : (Nat → Int32)) => ∃ z9 : Bool, r = bI z9 ∧ (z9, u9) = fX3_poke v_by a1 a2) (fun u9 t => kq D (kX3 cB cI gc me ba rg wa sm v_im v_ei v_ha v_hb v_cy u9 v_ct v_wd) [(cB, .byte), (cI, .int)] (va_A (kX3 cB cI gc me ba rg wa sm v_im v_ei v_ha v_hb v_cy v_by v_ct v_wd) sz) t) (va_A (kX3 cB cI gc me ba rg wa sm v_im v_ei v_ha v_hb v_cy v_by v_ct v_wd) sz)) 0 0 (va_A (kX3 cB cI gc me ba rg wa sm v_im v_ei v_ha v_hb v_cy v_by v_ct v_wd) sz) := by
  refine Met.ofW (cc := cX3_poke) (maxL := 3) (ret := (some .boolean)) (by decide) rfl ?_
  intro p e s m args below meth c s₁ B hml hv
  obtain ⟨rfl, hsz, hP, hK, hD0, hT⟩ := hv
  have hx := B.exec
  have hb := B.bytes
  have hr := B.returns
  have hts := atoms_spec (ws := wwX3_poke) B.pre
  have hws : ∀ w ∈ wsL_law, w.before _ s = true := fun w h => hts w (List.mem_cons_of_mem _ h)
  have hown : s.vm.findClass RX3 = some m.cls := findClass_of_methodNamed B.named
  have hlocks := B.notSynchronized
  subst hsz
  have hD := hD0.self (sz := s.heap.size)
  generalize hAe : va_A (kX3 cB cI gc me ba rg wa sm v_im v_ei v_ha v_hb v_cy v_by v_ct v_wd) s.heap.size = A at hD hT ⊢
  have hA : ∀ q : Nat, s.heap.size ≤ q → A q := fun q h => by rw [← hAe]; exact Or.inr h
  have hS : va_S A s.heap s.heap [] := va_S.rf
  have hl := lv_entry ([.ref gc, .int a1, .int a2]) (n := 3) (Nat.le_of_ble_eq_true rfl)
  rw [lg_entry_eq]
  generalize (lg_sl ([.ref gc, .int a1, .int a2]) ++ List.replicate (3 - (lg_sl ([.ref gc, .int a1, .int a2])).length) Slot.unset).toArray = ls at hl ⊢
  have hl : lv_has ls 3 [(0, .ref gc), (1, .int a1), (2, .int a2)] := hl
  generalize hQ : MQ _ _ _ _ _ _ _ = Q
  obtain ⟨H, hHe⟩ : ∃ H : Heap, H = s.heap := ⟨_, rfl⟩
  obtain ⟨locs, hle⟩ : ∃ L : List Loc, L = [] := ⟨_, rfl⟩
  have hP : va_P D vwCl (kX3 cB cI gc me ba rg wa sm v_im v_ei v_ha v_hb v_cy v_by v_ct v_wd) H := by rw [hHe]; exact hP
  have hS : va_S A s.heap H locs := by rw [hHe, hle]; exact hS
  refine kw_start hHe.symm hle.symm ?_
  have hf : fX3_poke v_by a1 a2 = fX3_poke v_by a1 a2 := rfl
  refine lv_iload_n hx hb dX3_poke_0 rfl (lv_at hl 1 rfl) ?_
  refine lv_if_lt (tgt := 10) hx hb dX3_poke_1 (by decide) (fun c1 => ?_) (fun c1 => ?_)
  · have hf := hf.trans (kt_lt c1)
    refine lv_iconst (v := 0) hx hb dX3_poke_10 (by decide) ?_
    rw [← hQ]
    exact W.zret (v := bI false) (ty := .boolean) hx hb hr (bI_nar _) (fun t ht hW => ⟨⟨bI false, v_by, rfl, ⟨false, rfl, hf.symm⟩, by rw [ht]; exact hP, va_K.moved hW.alike hK, hD⟩, hS.F ht⟩) hS.2.2 dX3_poke_11
  · have hf := hf.trans (kf_lt c1)
    refine lv_iload_n hx hb dX3_poke_4 rfl (lv_at hl 1 rfl) ?_
    refine lv_ldc (v := 65535) hx hb hown (hws _ mw_50) dX3_poke_5 ?_
    refine lv_icmp_le (tgt := 12) hx hb dX3_poke_7 (by decide) (fun c2 => ?_) (fun c2 => ?_)
    · have hf := hf.trans (kt_le c2)
      refine lv_aload_n hx hb dX3_poke_12 rfl (lv_at hl 0 rfl) ?_
      refine va_get (D := D) (ci := 3) (v := .ref me) (C := RX3) (T := TX3) (N := 8) hx hb hws inlX3 hown hK hP 0 rfl rfl 0 (by decide) (hws _ mw_15) (fun _ h9 => h9) rfl dX3_poke_13 ?_
      refine lv_iload_n hx hb dX3_poke_16 rfl (lv_at hl 1 rfl) ?_
      refine lv_iload_n hx hb dX3_poke_17 rfl (lv_at hl 2 rfl) ?_
      refine kc_Vv (wr := [(gc, .inr (3, [.ref me, .ref rg, .ref sm, .int (bI v_im), .int (bI v_ei), .int (bI v_ha), .int (bI v_hb), .int v_cy])), (rg, .inr (1, [.ref wa])), (wa, .inl (cI, 6, .inl v_wd)), (sm, .inr (2, [.ref rg]))]) (As := [.int a1, .int a2]) (rest := []) (fun u9 => (kX3 cB cI gc me ba rg wa sm v_im v_ei v_ha v_hb v_cy u9 v_ct v_wd)) ⟨hx, hb, hml, hown, hws⟩ hK hP hD hS hA hT (c_X0_store l D cB me ba H.size v_by v_ct a1 a2) (cwV 2 hws (gw_V mw_51 mw_52 mw_53 mw_14 mw_54) rfl rfl rfl hdX0_store ⟨Nat.le_of_ble_eq_true rfl, Nat.le_of_ble_eq_true rfl⟩) [1, 2] [0, 3, 4, 5] [0] [0, 4, 5, 1, 2, 3] rfl rfl rfl rfl (by decide) rfl (fun _ => rfl) rfl 1 rfl rfl rfl rfl hl.1 rfl (Nat.le_of_ble_eq_true rfl) dX3_poke_18 ⟨Nat.zero_le _, Nat.zero_le _⟩ (fun b3 H locs hw4 hP hD hS => ?_)
      have hP : va_P D vwCl (kX3 cB cI gc me ba rg wa sm v_im v_ei v_ha v_hb v_cy b3 v_ct v_wd) H := hP
      have hD : va_D A (kX3 cB cI gc me ba rg wa sm v_im v_ei v_ha v_hb v_cy b3 v_ct v_wd) := hD
      have hf := hf.trans (kE1 hw4)
      refine lv_iconst (v := 1) hx hb dX3_poke_21 (by decide) ?_
      rw [← hQ]
      exact W.zret (v := bI true) (ty := .boolean) hx hb hr (bI_nar _) (fun t ht hW => ⟨⟨bI true, b3, rfl, ⟨true, rfl, hf.symm⟩, by rw [ht]; exact hP, va_K.moved hW.alike hK, hD⟩, hS.F ht⟩) hS.2.2 dX3_poke_22
    · have hf := hf.trans (kf_le c2)
      refine lv_iconst (v := 0) hx hb dX3_poke_10 (by decide) ?_
      rw [← hQ]
      exact W.zret (v := bI false) (ty := .boolean) hx hb hr (bI_nar _) (fun t ht hW => ⟨⟨bI false, v_by, rfl, ⟨false, rfl, hf.symm⟩, by rw [ht]; exact hP, va_K.moved hW.alike hK, hD⟩, hS.F ht⟩) hS.2.2 dX3_poke_11
def fX3_feed (v_by : Nat → Int32) (a1 : Int32) (a2 : Int32) (a3 : Int32) (a4 : Int32) (a5 : Int32) : Bool × (Nat → Int32) := (kIf (kLt a1 (0 : Int32)) (false, v_by) (kIf (kLe a1 (65520 : Int32)) (kU1 (fX0_storeNumber v_by a1 a2) (fun (b3 : Nat → Int32) => (kU1 (fX0_storeNumber b3 (a1 + (4 : Int32)) a3) (fun (b5 : Nat → Int32) => (kU1 (fX0_storeNumber b5 (a1 + (8 : Int32)) a4) (fun (b7 : Nat → Int32) => (kU1 (fX0_storeNumber b7 (a1 + (12 : Int32)) a5) (fun (b9 : Nat → Int32) => (true, b9))))))))) (false, v_by)))
def rmX3_feed : Room := { frames := 2, cells := 0, slots := 0, locals := 45 }
def wwX3_feed : List Cond := Cond.code yX3_feed cX3_feed 6 (some .boolean) :: wsL_law
theorem hdX3_feed : yX3_feed.cls = RX3 ∧ yX3_feed.cls ≠ "java/lang/invoke/MethodHandle" ∧ yX3_feed.cls ≠ "java/lang/invoke/VarHandle" ∧ (parseMethodDescriptor yX3_feed.desc).map (fun d => d.parameters.length) = some 5 := by decide +kernel
set_option maxHeartbeats 4000000 in
set_option maxRecDepth 100000 in
theorem c_X3_feed (l : Launch) (D : va_G) (cB : ClassId) (cI : ClassId) (gc me ba rg wa sm sz : Nat) (v_im : Bool) (v_ei : Bool) (v_ha : Bool) (v_hb : Bool) (v_cy : Int32) (v_by : Nat → Int32) (v_ct : Int32) (v_wd : Nat → Int32) (a1 : Int32) (a2 : Int32) (a3 : Int32) (a4 : Int32) (a5 : Int32)  : Met l yX3_feed wwX3_feed rmX3_feed (va_Pc [.ref gc, .int a1, .int a2, .int a3, .int a4, .int a5] (kp D (kX3 cB cI gc me ba rg wa sm v_im v_ei v_ha v_hb v_cy v_by v_ct v_wd) [(cB, .byte), (cI, .int)] sz)) (va_Qi (fun (r : Int32) (u9 : (Nat → Int32)) => ∃ z9 : Bool, r = bI z9 ∧ (z9, u9) = fX3_feed v_by a1 a2 a3 a4 a5) (fun u9 t => kq D (kX3 cB cI gc me ba rg wa sm v_im v_ei v_ha v_hb v_cy u9 v_ct v_wd) [(cB, .byte), (cI, .int)] (va_A (kX3 cB cI gc me ba rg wa sm v_im v_ei v_ha v_hb v_cy v_by v_ct v_wd) sz) t) (va_A (kX3 cB cI gc me ba rg wa sm v_im v_ei v_ha v_hb v_cy v_by v_ct v_wd) sz)) 0 0 (va_A (kX3 cB cI gc me ba rg wa sm v_im v_ei v_ha v_hb v_cy v_by v_ct v_wd) sz) := by
  refine Met.ofW (cc := cX3_feed) (maxL := 6) (ret := (some .boolean)) (by decide) rfl ?_
  intro p e s m args below meth c s₁ B hml hv
  obtain ⟨rfl, hsz, hP, hK, hD0, hT⟩ := hv
  have hx := B.exec
  have hb := B.bytes
  have hr := B.returns
  have hts := atoms_spec (ws := wwX3_feed) B.pre
  have hws : ∀ w ∈ wsL_law, w.before _ s = true := fun w h => hts w (List.mem_cons_of_mem _ h)
  have hown : s.vm.findClass RX3 = some m.cls := findClass_of_methodNamed B.named
  have hlocks := B.notSynchronized
  subst hsz
  have hD := hD0.self (sz := s.heap.size)
  generalize hAe : va_A (kX3 cB cI gc me ba rg wa sm v_im v_ei v_ha v_hb v_cy v_by v_ct v_wd) s.heap.size = A at hD hT ⊢
  have hA : ∀ q : Nat, s.heap.size ≤ q → A q := fun q h => by rw [← hAe]; exact Or.inr h
  have hS : va_S A s.heap s.heap [] := va_S.rf
  have hl := lv_entry ([.ref gc, .int a1, .int a2, .int a3, .int a4, .int a5]) (n := 6) (Nat.le_of_ble_eq_true rfl)
  rw [lg_entry_eq]
  generalize (lg_sl ([.ref gc, .int a1, .int a2, .int a3, .int a4, .int a5]) ++ List.replicate (6 - (lg_sl ([.ref gc, .int a1, .int a2, .int a3, .int a4, .int a5])).length) Slot.unset).toArray = ls at hl ⊢
  have hl : lv_has ls 6 [(0, .ref gc), (1, .int a1), (2, .int a2), (3, .int a3), (4, .int a4), (5, .int a5)] := hl
  generalize hQ : MQ _ _ _ _ _ _ _ = Q
  obtain ⟨H, hHe⟩ : ∃ H : Heap, H = s.heap := ⟨_, rfl⟩
  obtain ⟨locs, hle⟩ : ∃ L : List Loc, L = [] := ⟨_, rfl⟩
  have hP : va_P D vwCl (kX3 cB cI gc me ba rg wa sm v_im v_ei v_ha v_hb v_cy v_by v_ct v_wd) H := by rw [hHe]; exact hP
  have hS : va_S A s.heap H locs := by rw [hHe, hle]; exact hS
  refine kw_start hHe.symm hle.symm ?_
  have hf : fX3_feed v_by a1 a2 a3 a4 a5 = fX3_feed v_by a1 a2 a3 a4 a5 := rfl
  refine lv_iload_n hx hb dX3_feed_0 rfl (lv_at hl 1 rfl) ?_
  refine lv_if_lt (tgt := 10) hx hb dX3_feed_1 (by decide) (fun c1 => ?_) (fun c1 => ?_)
  · have hf := hf.trans (kt_lt c1)
    refine lv_iconst (v := 0) hx hb dX3_feed_10 (by decide) ?_
    rw [← hQ]
    exact W.zret (v := bI false) (ty := .boolean) hx hb hr (bI_nar _) (fun t ht hW => ⟨⟨bI false, v_by, rfl, ⟨false, rfl, hf.symm⟩, by rw [ht]; exact hP, va_K.moved hW.alike hK, hD⟩, hS.F ht⟩) hS.2.2 dX3_feed_11
  · have hf := hf.trans (kf_lt c1)
    refine lv_iload_n hx hb dX3_feed_4 rfl (lv_at hl 1 rfl) ?_
    refine lv_ldc (v := 65520) hx hb hown (hws _ mw_70) dX3_feed_5 ?_
    refine lv_icmp_le (tgt := 12) hx hb dX3_feed_7 (by decide) (fun c2 => ?_) (fun c2 => ?_)
    · have hf := hf.trans (kt_le c2)
      refine lv_aload_n hx hb dX3_feed_12 rfl (lv_at hl 0 rfl) ?_
      refine va_get (D := D) (ci := 3) (v := .ref me) (C := RX3) (T := TX3) (N := 8) hx hb hws inlX3 hown hK hP 0 rfl rfl 0 (by decide) (hws _ mw_15) (fun _ h9 => h9) rfl dX3_feed_13 ?_
      refine lv_iload_n hx hb dX3_feed_16 rfl (lv_at hl 1 rfl) ?_
      refine lv_iload_n hx hb dX3_feed_17 rfl (lv_at hl 2 rfl) ?_
      refine kc_Vv (wr := [(gc, .inr (3, [.ref me, .ref rg, .ref sm, .int (bI v_im), .int (bI v_ei), .int (bI v_ha), .int (bI v_hb), .int v_cy])), (rg, .inr (1, [.ref wa])), (wa, .inl (cI, 6, .inl v_wd)), (sm, .inr (2, [.ref rg]))]) (As := [.int a1, .int a2]) (rest := []) (fun u9 => (kX3 cB cI gc me ba rg wa sm v_im v_ei v_ha v_hb v_cy u9 v_ct v_wd)) ⟨hx, hb, hml, hown, hws⟩ hK hP hD hS hA hT (c_X0_storeNumber l D cB me ba H.size v_by v_ct a1 a2) (cwV 2 hws (gw_V mw_71 mw_72 mw_73 mw_14 mw_74) rfl rfl rfl hdX0_storeNumber ⟨Nat.le_of_ble_eq_true rfl, Nat.le_of_ble_eq_true rfl⟩) [1, 2] [0, 3, 4, 5] [0] [0, 4, 5, 1, 2, 3] rfl rfl rfl rfl (by decide) rfl (fun _ => rfl) rfl 1 rfl rfl rfl rfl hl.1 rfl (Nat.le_of_ble_eq_true rfl) dX3_feed_18 ⟨Nat.zero_le _, Nat.zero_le _⟩ (fun b3 H locs hw4 hP hD hS => ?_)
      have hP : va_P D vwCl (kX3 cB cI gc me ba rg wa sm v_im v_ei v_ha v_hb v_cy b3 v_ct v_wd) H := hP
      have hD : va_D A (kX3 cB cI gc me ba rg wa sm v_im v_ei v_ha v_hb v_cy b3 v_ct v_wd) := hD
      have hf := hf.trans (kE1 hw4)
      refine lv_aload_n hx hb dX3_feed_21 rfl (lv_at hl 0 rfl) ?_
      refine va_get (D := D) (ci := 3) (v := .ref me) (C := RX3) (T := TX3) (N := 8) hx hb hws inlX3 hown hK hP 0 rfl rfl 0 (by decide) (hws _ mw_15) (fun _ h9 => h9) rfl dX3_feed_22 ?_
      refine lv_iload_n hx hb dX3_feed_25 rfl (lv_at hl 1 rfl) ?_
      refine lv_iconst (v := 4) hx hb dX3_feed_26 (by decide) ?_
      refine lv_iadd hx hb dX3_feed_27 ?_
      refine lv_iload_n hx hb dX3_feed_28 rfl (lv_at hl 3 rfl) ?_
      refine kc_Vv (wr := [(gc, .inr (3, [.ref me, .ref rg, .ref sm, .int (bI v_im), .int (bI v_ei), .int (bI v_ha), .int (bI v_hb), .int v_cy])), (rg, .inr (1, [.ref wa])), (wa, .inl (cI, 6, .inl v_wd)), (sm, .inr (2, [.ref rg]))]) (As := [.int (a1 + (4 : Int32)), .int a3]) (rest := []) (fun u9 => (kX3 cB cI gc me ba rg wa sm v_im v_ei v_ha v_hb v_cy u9 v_ct v_wd)) ⟨hx, hb, hml, hown, hws⟩ hK hP hD hS hA hT (c_X0_storeNumber l D cB me ba H.size b3 v_ct (a1 + (4 : Int32)) a3) (cwV 2 hws (gw_V mw_71 mw_72 mw_73 mw_14 mw_74) rfl rfl rfl hdX0_storeNumber ⟨Nat.le_of_ble_eq_true rfl, Nat.le_of_ble_eq_true rfl⟩) [1, 2] [0, 3, 4, 5] [0] [0, 4, 5, 1, 2, 3] rfl rfl rfl rfl (by decide) rfl (fun _ => rfl) rfl 1 rfl rfl rfl rfl hl.1 rfl (Nat.le_of_ble_eq_true rfl) dX3_feed_29 ⟨Nat.zero_le _, Nat.zero_le _⟩ (fun b5 H locs hw6 hP hD hS => ?_)
      have hP : va_P D vwCl (kX3 cB cI gc me ba rg wa sm v_im v_ei v_ha v_hb v_cy b5 v_ct v_wd) H := hP
      have hD : va_D A (kX3 cB cI gc me ba rg wa sm v_im v_ei v_ha v_hb v_cy b5 v_ct v_wd) := hD
      have hf := hf.trans (kE1 hw6)
      refine lv_aload_n hx hb dX3_feed_32 rfl (lv_at hl 0 rfl) ?_
      refine va_get (D := D) (ci := 3) (v := .ref me) (C := RX3) (T := TX3) (N := 8) hx hb hws inlX3 hown hK hP 0 rfl rfl 0 (by decide) (hws _ mw_15) (fun _ h9 => h9) rfl dX3_feed_33 ?_
      refine lv_iload_n hx hb dX3_feed_36 rfl (lv_at hl 1 rfl) ?_
      refine lv_bipush (v := 8) hx hb dX3_feed_37 (by decide) ?_
      refine lv_iadd hx hb dX3_feed_39 ?_
      refine lv_iload hx hb dX3_feed_40 (lv_at hl 4 rfl) ?_
      refine kc_Vv (wr := [(gc, .inr (3, [.ref me, .ref rg, .ref sm, .int (bI v_im), .int (bI v_ei), .int (bI v_ha), .int (bI v_hb), .int v_cy])), (rg, .inr (1, [.ref wa])), (wa, .inl (cI, 6, .inl v_wd)), (sm, .inr (2, [.ref rg]))]) (As := [.int (a1 + (8 : Int32)), .int a4]) (rest := []) (fun u9 => (kX3 cB cI gc me ba rg wa sm v_im v_ei v_ha v_hb v_cy u9 v_ct v_wd)) ⟨hx, hb, hml, hown, hws⟩ hK hP hD hS hA hT (c_X0_storeNumber l D cB me ba H.size b5 v_ct (a1 + (8 : Int32)) a4) (cwV 2 hws (gw_V mw_71 mw_72 mw_73 mw_14 mw_74) rfl rfl rfl hdX0_storeNumber ⟨Nat.le_of_ble_eq_true rfl, Nat.le_of_ble_eq_true rfl⟩) [1, 2] [0, 3, 4, 5] [0] [0, 4, 5, 1, 2, 3] rfl rfl rfl rfl (by decide) rfl (fun _ => rfl) rfl 1 rfl rfl rfl rfl hl.1 rfl (Nat.le_of_ble_eq_true rfl) dX3_feed_42 ⟨Nat.zero_le _, Nat.zero_le _⟩ (fun b7 H locs hw8 hP hD hS => ?_)
      have hP : va_P D vwCl (kX3 cB cI gc me ba rg wa sm v_im v_ei v_ha v_hb v_cy b7 v_ct v_wd) H := hP
      have hD : va_D A (kX3 cB cI gc me ba rg wa sm v_im v_ei v_ha v_hb v_cy b7 v_ct v_wd) := hD
      have hf := hf.trans (kE1 hw8)
      refine lv_aload_n hx hb dX3_feed_45 rfl (lv_at hl 0 rfl) ?_
      refine va_get (D := D) (ci := 3) (v := .ref me) (C := RX3) (T := TX3) (N := 8) hx hb hws inlX3 hown hK hP 0 rfl rfl 0 (by decide) (hws _ mw_15) (fun _ h9 => h9) rfl dX3_feed_46 ?_
      refine lv_iload_n hx hb dX3_feed_49 rfl (lv_at hl 1 rfl) ?_
      refine lv_bipush (v := 12) hx hb dX3_feed_50 (by decide) ?_
      refine lv_iadd hx hb dX3_feed_52 ?_
      refine lv_iload hx hb dX3_feed_53 (lv_at hl 5 rfl) ?_
      refine kc_Vv (wr := [(gc, .inr (3, [.ref me, .ref rg, .ref sm, .int (bI v_im), .int (bI v_ei), .int (bI v_ha), .int (bI v_hb), .int v_cy])), (rg, .inr (1, [.ref wa])), (wa, .inl (cI, 6, .inl v_wd)), (sm, .inr (2, [.ref rg]))]) (As := [.int (a1 + (12 : Int32)), .int a5]) (rest := []) (fun u9 => (kX3 cB cI gc me ba rg wa sm v_im v_ei v_ha v_hb v_cy u9 v_ct v_wd)) ⟨hx, hb, hml, hown, hws⟩ hK hP hD hS hA hT (c_X0_storeNumber l D cB me ba H.size b7 v_ct (a1 + (12 : Int32)) a5) (cwV 2 hws (gw_V mw_71 mw_72 mw_73 mw_14 mw_74) rfl rfl rfl hdX0_storeNumber ⟨Nat.le_of_ble_eq_true rfl, Nat.le_of_ble_eq_true rfl⟩) [1, 2] [0, 3, 4, 5] [0] [0, 4, 5, 1, 2, 3] rfl rfl rfl rfl (by decide) rfl (fun _ => rfl) rfl 1 rfl rfl rfl rfl hl.1 rfl (Nat.le_of_ble_eq_true rfl) dX3_feed_55 ⟨Nat.zero_le _, Nat.zero_le _⟩ (fun b9 H locs hw10 hP hD hS => ?_)
      have hP : va_P D vwCl (kX3 cB cI gc me ba rg wa sm v_im v_ei v_ha v_hb v_cy b9 v_ct v_wd) H := hP
      have hD : va_D A (kX3 cB cI gc me ba rg wa sm v_im v_ei v_ha v_hb v_cy b9 v_ct v_wd) := hD
      have hf := hf.trans (kE1 hw10)
      refine lv_iconst (v := 1) hx hb dX3_feed_58 (by decide) ?_
      rw [← hQ]
      exact W.zret (v := bI true) (ty := .boolean) hx hb hr (bI_nar _) (fun t ht hW => ⟨⟨bI true, b9, rfl, ⟨true, rfl, hf.symm⟩, by rw [ht]; exact hP, va_K.moved hW.alike hK, hD⟩, hS.F ht⟩) hS.2.2 dX3_feed_59
    · have hf := hf.trans (kf_le c2)
      refine lv_iconst (v := 0) hx hb dX3_feed_10 (by decide) ?_
      rw [← hQ]
      exact W.zret (v := bI false) (ty := .boolean) hx hb hr (bI_nar _) (fun t ht hW => ⟨⟨bI false, v_by, rfl, ⟨false, rfl, hf.symm⟩, by rw [ht]; exact hP, va_K.moved hW.alike hK, hD⟩, hS.F ht⟩) hS.2.2 dX3_feed_11
def fX3_peek (v_by : Nat → Int32) (a1 : Int32) : Int32 := (kIf (kLt a1 (0 : Int32)) (-1 : Int32) (kIf (kLe a1 (65535 : Int32)) (kU1 (fX0_at v_by a1) (fun (r4 : Int32) => r4)) (-1 : Int32)))
def rmX3_peek : Room := { frames := 1, cells := 0, slots := 0, locals := 21 }
def wwX3_peek : List Cond := Cond.code yX3_peek cX3_peek 2 (some .int) :: wsL_law
theorem hdX3_peek : yX3_peek.cls = RX3 ∧ yX3_peek.cls ≠ "java/lang/invoke/MethodHandle" ∧ yX3_peek.cls ≠ "java/lang/invoke/VarHandle" ∧ (parseMethodDescriptor yX3_peek.desc).map (fun d => d.parameters.length) = some 1 := by decide +kernel
set_option maxHeartbeats 4000000 in
set_option maxRecDepth 100000 in
theorem c_X3_peek (l : Launch) (D : va_G) (cB : ClassId) (cI : ClassId) (gc me ba rg wa sm sz : Nat) (v_im : Bool) (v_ei : Bool) (v_ha : Bool) (v_hb : Bool) (v_cy : Int32) (v_by : Nat → Int32) (v_ct : Int32) (v_wd : Nat → Int32) (a1 : Int32)  : Met l yX3_peek wwX3_peek rmX3_peek (va_Pc [.ref gc, .int a1] (kp D (kX3 cB cI gc me ba rg wa sm v_im v_ei v_ha v_hb v_cy v_by v_ct v_wd) [(cB, .byte), (cI, .int)] sz)) (va_Qi (fun (r : Int32) (_ : Unit) => r = fX3_peek v_by a1) (fun _ t => kq D (kX3 cB cI gc me ba rg wa sm v_im v_ei v_ha v_hb v_cy v_by v_ct v_wd) [(cB, .byte), (cI, .int)] (va_A (kX3 cB cI gc me ba rg wa sm v_im v_ei v_ha v_hb v_cy v_by v_ct v_wd) sz) t) (va_A (kX3 cB cI gc me ba rg wa sm v_im v_ei v_ha v_hb v_cy v_by v_ct v_wd) sz)) 0 0 (va_A (kX3 cB cI gc me ba rg wa sm v_im v_ei v_ha v_hb v_cy v_by v_ct v_wd) sz) := by
  refine Met.ofW (cc := cX3_peek) (maxL := 2) (ret := (some .int)) (by decide) rfl ?_
  intro p e s m args below meth c s₁ B hml hv
  obtain ⟨rfl, hsz, hP, hK, hD0, hT⟩ := hv
  have hx := B.exec
  have hb := B.bytes
  have hr := B.returns
  have hts := atoms_spec (ws := wwX3_peek) B.pre
  have hws : ∀ w ∈ wsL_law, w.before _ s = true := fun w h => hts w (List.mem_cons_of_mem _ h)
  have hown : s.vm.findClass RX3 = some m.cls := findClass_of_methodNamed B.named
  have hlocks := B.notSynchronized
  subst hsz
  have hD := hD0.self (sz := s.heap.size)
  generalize hAe : va_A (kX3 cB cI gc me ba rg wa sm v_im v_ei v_ha v_hb v_cy v_by v_ct v_wd) s.heap.size = A at hD hT ⊢
  have hA : ∀ q : Nat, s.heap.size ≤ q → A q := fun q h => by rw [← hAe]; exact Or.inr h
  have hS : va_S A s.heap s.heap [] := va_S.rf
  have hl := lv_entry ([.ref gc, .int a1]) (n := 2) (Nat.le_of_ble_eq_true rfl)
  rw [lg_entry_eq]
  generalize (lg_sl ([.ref gc, .int a1]) ++ List.replicate (2 - (lg_sl ([.ref gc, .int a1])).length) Slot.unset).toArray = ls at hl ⊢
  have hl : lv_has ls 2 [(0, .ref gc), (1, .int a1)] := hl
  generalize hQ : MQ _ _ _ _ _ _ _ = Q
  obtain ⟨H, hHe⟩ : ∃ H : Heap, H = s.heap := ⟨_, rfl⟩
  obtain ⟨locs, hle⟩ : ∃ L : List Loc, L = [] := ⟨_, rfl⟩
  have hP : va_P D vwCl (kX3 cB cI gc me ba rg wa sm v_im v_ei v_ha v_hb v_cy v_by v_ct v_wd) H := by rw [hHe]; exact hP
  have hS : va_S A s.heap H locs := by rw [hHe, hle]; exact hS
  refine kw_start hHe.symm hle.symm ?_
  have hf : fX3_peek v_by a1 = fX3_peek v_by a1 := rfl
  refine lv_iload_n hx hb dX3_peek_0 rfl (lv_at hl 1 rfl) ?_
  refine lv_if_lt (tgt := 10) hx hb dX3_peek_1 (by decide) (fun c1 => ?_) (fun c1 => ?_)
  · have hf := hf.trans (kt_lt c1)
    refine lv_iconst (v := -1) hx hb dX3_peek_10 (by decide) ?_
    rw [← hQ]
    exact W.iret (v := (-1 : Int32)) hx hb hr (fun t ht hW => ⟨⟨(-1 : Int32), (), rfl, hf.symm, by rw [ht]; exact hP, va_K.moved hW.alike hK, hD⟩, hS.F ht⟩) hS.2.2 dX3_peek_11
  · have hf := hf.trans (kf_lt c1)
    refine lv_iload_n hx hb dX3_peek_4 rfl (lv_at hl 1 rfl) ?_
    refine lv_ldc (v := 65535) hx hb hown (hws _ mw_50) dX3_peek_5 ?_
    refine lv_icmp_le (tgt := 12) hx hb dX3_peek_7 (by decide) (fun c2 => ?_) (fun c2 => ?_)
    · have hf := hf.trans (kt_le c2)
      refine lv_aload_n hx hb dX3_peek_12 rfl (lv_at hl 0 rfl) ?_
      refine va_get (D := D) (ci := 3) (v := .ref me) (C := RX3) (T := TX3) (N := 8) hx hb hws inlX3 hown hK hP 0 rfl rfl 0 (by decide) (hws _ mw_15) (fun _ h9 => h9) rfl dX3_peek_13 ?_
      refine lv_iload_n hx hb dX3_peek_16 rfl (lv_at hl 1 rfl) ?_
      refine kc_Vi (wr := [(gc, .inr (3, [.ref me, .ref rg, .ref sm, .int (bI v_im), .int (bI v_ei), .int (bI v_ha), .int (bI v_hb), .int v_cy])), (rg, .inr (1, [.ref wa])), (wa, .inl (cI, 6, .inl v_wd)), (sm, .inr (2, [.ref rg]))]) (As := [.int a1]) (rest := []) (fun _ => (kX3 cB cI gc me ba rg wa sm v_im v_ei v_ha v_hb v_cy v_by v_ct v_wd)) ⟨hx, hb, hml, hown, hws⟩ hK hP hD hS hA hT (c_X0_at l D cB me ba H.size v_by v_ct a1) (cwV 1 hws (gw_V mw_85 mw_86 mw_87 mw_14 mw_88) rfl rfl rfl hdX0_at ⟨Nat.le_of_ble_eq_true rfl, Nat.le_of_ble_eq_true rfl⟩) [1, 2] [0, 3, 4, 5] [0] [0, 4, 5, 1, 2, 3] rfl rfl rfl rfl (by decide) rfl (fun _ => rfl) rfl 1 rfl rfl rfl rfl hl.1 rfl (Nat.le_of_ble_eq_true rfl) dX3_peek_17 ⟨Nat.zero_le _, Nat.zero_le _⟩ (fun r4 _ H locs hw3 hP hD hS => ?_)
      have hP : va_P D vwCl (kX3 cB cI gc me ba rg wa sm v_im v_ei v_ha v_hb v_cy v_by v_ct v_wd) H := hP
      have hD : va_D A (kX3 cB cI gc me ba rg wa sm v_im v_ei v_ha v_hb v_cy v_by v_ct v_wd) := hD
      have hf := hf.trans (kE1 hw3)
      rw [← hQ]
      exact W.iret (v := r4) hx hb hr (fun t ht hW => ⟨⟨r4, (), rfl, hf.symm, by rw [ht]; exact hP, va_K.moved hW.alike hK, hD⟩, hS.F ht⟩) hS.2.2 dX3_peek_20
    · have hf := hf.trans (kf_le c2)
      refine lv_iconst (v := -1) hx hb dX3_peek_10 (by decide) ?_
      rw [← hQ]
      exact W.iret (v := (-1 : Int32)) hx hb hr (fun t ht hW => ⟨⟨(-1 : Int32), (), rfl, hf.symm, by rw [ht]; exact hP, va_K.moved hW.alike hK, hD⟩, hS.F ht⟩) hS.2.2 dX3_peek_11
def fX3_push (v_by : Nat → Int32) (v_ct : Int32) (v_wd : Nat → Int32) (a1 : Int32) : (Nat → Int32) × Int32 × (Nat → Int32) := (kU1 (fX1_word v_wd (4 : Int32)) (fun (r2 : Int32) => (kU2 (fX0_write v_by v_ct (r2 - (1 : Int32)) (a1 >>> ((8 : Int32) &&& (31 : Int32)))) (fun (b3 : Nat → Int32) (b4 : Int32) => (kU2 (fX0_write b3 b4 (r2 - (2 : Int32)) a1) (fun (b6 : Nat → Int32) (b7 : Int32) => (kU2 (fX1_setWord v_wd (4 : Int32) (r2 - (2 : Int32))) (fun (z12 : Bool) (b9 : Nat → Int32) => (b6, b7, b9)))))))))
def rmX3_push : Room := { frames := 1, cells := 0, slots := 0, locals := 22 }
def wwX3_push : List Cond := Cond.code yX3_push cX3_push 3 none :: wsL_law
theorem hdX3_push : yX3_push.cls = RX3 ∧ yX3_push.cls ≠ "java/lang/invoke/MethodHandle" ∧ yX3_push.cls ≠ "java/lang/invoke/VarHandle" ∧ (parseMethodDescriptor yX3_push.desc).map (fun d => d.parameters.length) = some 1 := by decide +kernel
set_option maxHeartbeats 4000000 in
set_option maxRecDepth 100000 in
theorem c_X3_push (l : Launch) (D : va_G) (cB : ClassId) (cI : ClassId) (gc me ba rg wa sm sz : Nat) (v_im : Bool) (v_ei : Bool) (v_ha : Bool) (v_hb : Bool) (v_cy : Int32) (v_by : Nat → Int32) (v_ct : Int32) (v_wd : Nat → Int32) (a1 : Int32)  : Met l yX3_push wwX3_push rmX3_push (va_Pc [.ref gc, .int a1] (kp D (kX3 cB cI gc me ba rg wa sm v_im v_ei v_ha v_hb v_cy v_by v_ct v_wd) [(cB, .byte), (cI, .int)] sz)) (va_Qv (fun (u9 : (Nat → Int32) × Int32 × (Nat → Int32)) => u9 = fX3_push v_by v_ct v_wd a1) (fun u9 t => kq D (kX3 cB cI gc me ba rg wa sm v_im v_ei v_ha v_hb v_cy (u9.1) (u9.2.1) (u9.2.2)) [(cB, .byte), (cI, .int)] (va_A (kX3 cB cI gc me ba rg wa sm v_im v_ei v_ha v_hb v_cy v_by v_ct v_wd) sz) t) (va_A (kX3 cB cI gc me ba rg wa sm v_im v_ei v_ha v_hb v_cy v_by v_ct v_wd) sz)) 0 0 (va_A (kX3 cB cI gc me ba rg wa sm v_im v_ei v_ha v_hb v_cy v_by v_ct v_wd) sz) := by
  refine Met.ofW (cc := cX3_push) (maxL := 3) (ret := none) (by decide) rfl ?_
  intro p e s m args below meth c s₁ B hml hv
  obtain ⟨rfl, hsz, hP, hK, hD0, hT⟩ := hv
  have hx := B.exec
  have hb := B.bytes
  have hr := B.returns
  have hts := atoms_spec (ws := wwX3_push) B.pre
  have hws : ∀ w ∈ wsL_law, w.before _ s = true := fun w h => hts w (List.mem_cons_of_mem _ h)
  have hown : s.vm.findClass RX3 = some m.cls := findClass_of_methodNamed B.named
  have hlocks := B.notSynchronized
  subst hsz
  have hD := hD0.self (sz := s.heap.size)
  generalize hAe : va_A (kX3 cB cI gc me ba rg wa sm v_im v_ei v_ha v_hb v_cy v_by v_ct v_wd) s.heap.size = A at hD hT ⊢
  have hA : ∀ q : Nat, s.heap.size ≤ q → A q := fun q h => by rw [← hAe]; exact Or.inr h
  have hS : va_S A s.heap s.heap [] := va_S.rf
  have hl := lv_entry ([.ref gc, .int a1]) (n := 3) (Nat.le_of_ble_eq_true rfl)
  rw [lg_entry_eq]
  generalize (lg_sl ([.ref gc, .int a1]) ++ List.replicate (3 - (lg_sl ([.ref gc, .int a1])).length) Slot.unset).toArray = ls at hl ⊢
  have hl : lv_has ls 3 [(0, .ref gc), (1, .int a1)] := hl
  generalize hQ : MQ _ _ _ _ _ _ _ = Q
  obtain ⟨H, hHe⟩ : ∃ H : Heap, H = s.heap := ⟨_, rfl⟩
  obtain ⟨locs, hle⟩ : ∃ L : List Loc, L = [] := ⟨_, rfl⟩
  have hP : va_P D vwCl (kX3 cB cI gc me ba rg wa sm v_im v_ei v_ha v_hb v_cy v_by v_ct v_wd) H := by rw [hHe]; exact hP
  have hS : va_S A s.heap H locs := by rw [hHe, hle]; exact hS
  refine kw_start hHe.symm hle.symm ?_
  have hf : fX3_push v_by v_ct v_wd a1 = fX3_push v_by v_ct v_wd a1 := rfl
  refine lv_aload_n hx hb dX3_push_0 rfl (lv_at hl 0 rfl) ?_
  refine va_get (D := D) (ci := 3) (v := .ref rg) (C := RX3) (T := TX3) (N := 8) hx hb hws inlX3 hown hK hP 0 rfl rfl 1 (by decide) (hws _ mw_20) (fun _ h9 => h9) rfl dX3_push_1 ?_
  refine lv_iconst (v := 4) hx hb dX3_push_4 (by decide) ?_
  refine kc_Vi (wr := [(gc, .inr (3, [.ref me, .ref rg, .ref sm, .int (bI v_im), .int (bI v_ei), .int (bI v_ha), .int (bI v_hb), .int v_cy])), (me, .inr (0, [.ref ba, .int v_ct])), (ba, .inl (cB, 65536, .inl v_by)), (sm, .inr (2, [.ref rg]))]) (As := [.int (4 : Int32)]) (rest := []) (fun _ => (kX3 cB cI gc me ba rg wa sm v_im v_ei v_ha v_hb v_cy v_by v_ct v_wd)) ⟨hx, hb, hml, hown, hws⟩ hK hP hD hS hA hT (c_X1_word l D cI rg wa H.size v_wd (4 : Int32)) (cwV 1 hws (gw_V mw_123 mw_124 mw_125 mw_32 mw_126) rfl rfl rfl hdX1_word ⟨Nat.le_of_ble_eq_true rfl, Nat.le_of_ble_eq_true rfl⟩) [3, 4] [0, 1, 2, 5] [1] [0, 1, 2, 4, 5, 3] rfl rfl rfl rfl (by decide) rfl (fun _ => rfl) rfl 3 rfl rfl rfl rfl hl.1 rfl (Nat.le_of_ble_eq_true rfl) dX3_push_5 ⟨Nat.zero_le _, Nat.zero_le _⟩ (fun r2 _ H locs hw1 hP hD hS => ?_)
  have hP : va_P D vwCl (kX3 cB cI gc me ba rg wa sm v_im v_ei v_ha v_hb v_cy v_by v_ct v_wd) H := hP
  have hD : va_D A (kX3 cB cI gc me ba rg wa sm v_im v_ei v_ha v_hb v_cy v_by v_ct v_wd) := hD
  have hf := hf.trans (kE1 hw1)
  refine lv_istore_n (lv' := [(2, .int r2), (0, .ref gc), (1, .int a1)]) hx hb dX3_push_8 rfl hl (by decide) rfl (fun ls hl => ?_)
  refine lv_aload_n hx hb dX3_push_9 rfl (lv_at hl 1 rfl) ?_
  refine va_get (D := D) (ci := 3) (v := .ref me) (C := RX3) (T := TX3) (N := 8) hx hb hws inlX3 hown hK hP 0 rfl rfl 0 (by decide) (hws _ mw_15) (fun _ h9 => h9) rfl dX3_push_10 ?_
  refine lv_iload_n hx hb dX3_push_13 rfl (lv_at hl 0 rfl) ?_
  refine lv_iconst (v := 1) hx hb dX3_push_14 (by decide) ?_
  refine lv_isub hx hb dX3_push_15 ?_
  refine lv_iload_n hx hb dX3_push_16 rfl (lv_at hl 2 rfl) ?_
  refine lv_bipush (v := 8) hx hb dX3_push_17 (by decide) ?_
  refine lv_ishr hx hb dX3_push_19 ?_
  refine kc_Vv (wr := [(gc, .inr (3, [.ref me, .ref rg, .ref sm, .int (bI v_im), .int (bI v_ei), .int (bI v_ha), .int (bI v_hb), .int v_cy])), (rg, .inr (1, [.ref wa])), (wa, .inl (cI, 6, .inl v_wd)), (sm, .inr (2, [.ref rg]))]) (As := [.int (r2 - (1 : Int32)), .int (a1 >>> ((8 : Int32) &&& (31 : Int32)))]) (rest := []) (fun u9 => (kX3 cB cI gc me ba rg wa sm v_im v_ei v_ha v_hb v_cy (u9.1) (u9.2) v_wd)) ⟨hx, hb, hml, hown, hws⟩ hK hP hD hS hA hT (c_X0_write l D cB me ba H.size v_by v_ct (r2 - (1 : Int32)) (a1 >>> ((8 : Int32) &&& (31 : Int32)))) (cwV 2 hws (gw_V mw_131 mw_132 mw_133 mw_14 mw_134) rfl rfl rfl hdX0_write ⟨Nat.le_of_ble_eq_true rfl, Nat.le_of_ble_eq_true rfl⟩) [1, 2] [0, 3, 4, 5] [0] [0, 4, 5, 1, 2, 3] rfl rfl rfl rfl (by decide) rfl (fun _ => rfl) rfl 1 rfl rfl rfl rfl hl.1 rfl (Nat.le_of_ble_eq_true rfl) dX3_push_20 ⟨Nat.zero_le _, Nat.zero_le _⟩ (fun u9 H locs hw5 hP hD hS => ?_)
  obtain ⟨b3, b4⟩ := u9
  have hP : va_P D vwCl (kX3 cB cI gc me ba rg wa sm v_im v_ei v_ha v_hb v_cy b3 b4 v_wd) H := hP
  have hD : va_D A (kX3 cB cI gc me ba rg wa sm v_im v_ei v_ha v_hb v_cy b3 b4 v_wd) := hD
  have hf := hf.trans (kE2 hw5)
  refine lv_aload_n hx hb dX3_push_23 rfl (lv_at hl 1 rfl) ?_
  refine va_get (D := D) (ci := 3) (v := .ref me) (C := RX3) (T := TX3) (N := 8) hx hb hws inlX3 hown hK hP 0 rfl rfl 0 (by decide) (hws _ mw_15) (fun _ h9 => h9) rfl dX3_push_24 ?_
  refine lv_iload_n hx hb dX3_push_27 rfl (lv_at hl 0 rfl) ?_
  refine lv_iconst (v := 2) hx hb dX3_push_28 (by decide) ?_
  refine lv_isub hx hb dX3_push_29 ?_
  refine lv_iload_n hx hb dX3_push_30 rfl (lv_at hl 2 rfl) ?_
  refine kc_Vv (wr := [(gc, .inr (3, [.ref me, .ref rg, .ref sm, .int (bI v_im), .int (bI v_ei), .int (bI v_ha), .int (bI v_hb), .int v_cy])), (rg, .inr (1, [.ref wa])), (wa, .inl (cI, 6, .inl v_wd)), (sm, .inr (2, [.ref rg]))]) (As := [.int (r2 - (2 : Int32)), .int a1]) (rest := []) (fun u9 => (kX3 cB cI gc me ba rg wa sm v_im v_ei v_ha v_hb v_cy (u9.1) (u9.2) v_wd)) ⟨hx, hb, hml, hown, hws⟩ hK hP hD hS hA hT (c_X0_write l D cB me ba H.size b3 b4 (r2 - (2 : Int32)) a1) (cwV 2 hws (gw_V mw_131 mw_132 mw_133 mw_14 mw_134) rfl rfl rfl hdX0_write ⟨Nat.le_of_ble_eq_true rfl, Nat.le_of_ble_eq_true rfl⟩) [1, 2] [0, 3, 4, 5] [0] [0, 4, 5, 1, 2, 3] rfl rfl rfl rfl (by decide) rfl (fun _ => rfl) rfl 1 rfl rfl rfl rfl hl.1 rfl (Nat.le_of_ble_eq_true rfl) dX3_push_31 ⟨Nat.zero_le _, Nat.zero_le _⟩ (fun u9 H locs hw8 hP hD hS => ?_)
  obtain ⟨b6, b7⟩ := u9
  have hP : va_P D vwCl (kX3 cB cI gc me ba rg wa sm v_im v_ei v_ha v_hb v_cy b6 b7 v_wd) H := hP
  have hD : va_D A (kX3 cB cI gc me ba rg wa sm v_im v_ei v_ha v_hb v_cy b6 b7 v_wd) := hD
  have hf := hf.trans (kE2 hw8)
  refine lv_aload_n hx hb dX3_push_34 rfl (lv_at hl 1 rfl) ?_
  refine va_get (D := D) (ci := 3) (v := .ref rg) (C := RX3) (T := TX3) (N := 8) hx hb hws inlX3 hown hK hP 0 rfl rfl 1 (by decide) (hws _ mw_20) (fun _ h9 => h9) rfl dX3_push_35 ?_
  refine lv_iconst (v := 4) hx hb dX3_push_38 (by decide) ?_
  refine lv_iload_n hx hb dX3_push_39 rfl (lv_at hl 0 rfl) ?_
  refine lv_iconst (v := 2) hx hb dX3_push_40 (by decide) ?_
  refine lv_isub hx hb dX3_push_41 ?_
  refine kc_Vi (wr := [(gc, .inr (3, [.ref me, .ref rg, .ref sm, .int (bI v_im), .int (bI v_ei), .int (bI v_ha), .int (bI v_hb), .int v_cy])), (me, .inr (0, [.ref ba, .int b7])), (ba, .inl (cB, 65536, .inl b6)), (sm, .inr (2, [.ref rg]))]) (As := [.int (4 : Int32), .int (r2 - (2 : Int32))]) (rest := []) (fun u9 => (kX3 cB cI gc me ba rg wa sm v_im v_ei v_ha v_hb v_cy b6 b7 u9)) ⟨hx, hb, hml, hown, hws⟩ hK hP hD hS hA hT (c_X1_setWord l D cI rg wa H.size v_wd (4 : Int32) (r2 - (2 : Int32))) (cwV 2 hws (gw_V mw_137 mw_138 mw_139 mw_32 mw_140) rfl rfl rfl hdX1_setWord ⟨Nat.le_of_ble_eq_true rfl, Nat.le_of_ble_eq_true rfl⟩) [3, 4] [0, 1, 2, 5] [1] [0, 1, 2, 4, 5, 3] rfl rfl rfl rfl (by decide) rfl (fun _ => rfl) rfl 3 rfl rfl rfl rfl hl.1 rfl (Nat.le_of_ble_eq_true rfl) dX3_push_42 ⟨Nat.zero_le _, Nat.zero_le _⟩ (fun r11 b9 H locs hw10 hP hD hS => ?_)
  obtain ⟨z12, rfl, hw10⟩ := hw10
  have hP : va_P D vwCl (kX3 cB cI gc me ba rg wa sm v_im v_ei v_ha v_hb v_cy b6 b7 b9) H := hP
  have hD : va_D A (kX3 cB cI gc me ba rg wa sm v_im v_ei v_ha v_hb v_cy b6 b7 b9) := hD
  have hf := hf.trans (kE2 hw10)
  refine lv_pop hx hb dX3_push_45 rfl ?_
  rw [← hQ]
  exact W.vret hx hb hr (fun t ht hW => ⟨⟨(b6, b7, b9), rfl, hf.symm, by rw [ht]; exact hP, va_K.moved hW.alike hK, hD⟩, hS.F ht⟩) hS.2.2 dX3_push_46
def fX3_dispatch_L (v_by : Nat → Int32) (v_ct : Int32) (v_wd : Nat → Int32) (a1 : Int32) (q9 : Int32) : (Int32) ⊕ (Bool × Bool × (Nat → Int32) × Int32 × (Nat → Int32)) := kU1 q9 (fun (x1 : Int32) => (kIf (kLe (4 : Int32) x1) (kU1 (fX0_clearInterrupt v_by x1) (fun (b3 : Nat → Int32) => (kU1 (fX1_word v_wd (5 : Int32)) (fun (r6 : Int32) => (kU3 (fX3_push b3 v_ct v_wd r6) (fun (b7 : Nat → Int32) (b8 : Int32) (b9 : Nat → Int32) => (kU2 (fX1_setWord b9 (5 : Int32) ((64 : Int32) + ((8 : Int32) * x1))) (fun (z14 : Bool) (b11 : Nat → Int32) => (Sum.inr (false, false, b7, b8, b11)))))))))) (kIf (kEq ((a1 >>> (x1 &&& (31 : Int32))) &&& (1 : Int32)) (0 : Int32)) (kU1 (x1 + (1 : Int32)) (fun (x28 : Int32) => Sum.inl x28)) (kU1 (fX0_clearInterrupt v_by x1) (fun (b16 : Nat → Int32) => (kU1 (fX1_word v_wd (5 : Int32)) (fun (r19 : Int32) => (kU3 (fX3_push b16 v_ct v_wd r19) (fun (b20 : Nat → Int32) (b21 : Int32) (b22 : Nat → Int32) => (kU2 (fX1_setWord b22 (5 : Int32) ((64 : Int32) + ((8 : Int32) * x1))) (fun (z27 : Bool) (b24 : Nat → Int32) => (Sum.inr (false, false, b20, b21, b24)))))))))))))
def fX3_dispatch (v_im : Bool) (v_ha : Bool) (v_by : Nat → Int32) (v_ct : Int32) (v_wd : Nat → Int32) (a1 : Int32) : Bool × Bool × (Nat → Int32) × Int32 × (Nat → Int32) := (kIt (fX3_dispatch_L v_by v_ct v_wd a1) (v_im, v_ha, v_by, v_ct, v_wd) 5 (0 : Int32))
def rmX3_dispatch : Room := { frames := 2, cells := 0, slots := 0, locals := 44 }
def wwX3_dispatch : List Cond := Cond.code yX3_dispatch cX3_dispatch 3 none :: wsL_law
theorem hdX3_dispatch : yX3_dispatch.cls = RX3 ∧ yX3_dispatch.cls ≠ "java/lang/invoke/MethodHandle" ∧ yX3_dispatch.cls ≠ "java/lang/invoke/VarHandle" ∧ (parseMethodDescriptor yX3_dispatch.desc).map (fun d => d.parameters.length) = some 1 := by decide +kernel
set_option maxHeartbeats 4000000 in
set_option maxRecDepth 100000 in
theorem c_X3_dispatch (l : Launch) (D : va_G) (cB : ClassId) (cI : ClassId) (gc me ba rg wa sm sz : Nat) (v_im : Bool) (v_ei : Bool) (v_ha : Bool) (v_hb : Bool) (v_cy : Int32) (v_by : Nat → Int32) (v_ct : Int32) (v_wd : Nat → Int32) (a1 : Int32)  : Met l yX3_dispatch wwX3_dispatch rmX3_dispatch (va_Pc [.ref gc, .int a1] (kp D (kX3 cB cI gc me ba rg wa sm v_im v_ei v_ha v_hb v_cy v_by v_ct v_wd) [(cB, .byte), (cI, .int)] sz)) (va_Qv (fun (u9 : Bool × Bool × (Nat → Int32) × Int32 × (Nat → Int32)) => u9 = fX3_dispatch v_im v_ha v_by v_ct v_wd a1) (fun u9 t => kq D (kX3 cB cI gc me ba rg wa sm (u9.1) v_ei (u9.2.1) v_hb v_cy (u9.2.2.1) (u9.2.2.2.1) (u9.2.2.2.2)) [(cB, .byte), (cI, .int)] (va_A (kX3 cB cI gc me ba rg wa sm v_im v_ei v_ha v_hb v_cy v_by v_ct v_wd) sz) t) (va_A (kX3 cB cI gc me ba rg wa sm v_im v_ei v_ha v_hb v_cy v_by v_ct v_wd) sz)) 0 0 (va_A (kX3 cB cI gc me ba rg wa sm v_im v_ei v_ha v_hb v_cy v_by v_ct v_wd) sz) := by
  refine Met.ofW (cc := cX3_dispatch) (maxL := 3) (ret := none) (by decide) rfl ?_
  intro p e s m args below meth c s₁ B hml hv
  obtain ⟨rfl, hsz, hP, hK, hD0, hT⟩ := hv
  have hx := B.exec
  have hb := B.bytes
  have hr := B.returns
  have hts := atoms_spec (ws := wwX3_dispatch) B.pre
  have hws : ∀ w ∈ wsL_law, w.before _ s = true := fun w h => hts w (List.mem_cons_of_mem _ h)
  have hown : s.vm.findClass RX3 = some m.cls := findClass_of_methodNamed B.named
  have hlocks := B.notSynchronized
  subst hsz
  have hD := hD0.self (sz := s.heap.size)
  generalize hAe : va_A (kX3 cB cI gc me ba rg wa sm v_im v_ei v_ha v_hb v_cy v_by v_ct v_wd) s.heap.size = A at hD hT ⊢
  have hA : ∀ q : Nat, s.heap.size ≤ q → A q := fun q h => by rw [← hAe]; exact Or.inr h
  have hS : va_S A s.heap s.heap [] := va_S.rf
  have hl := lv_entry ([.ref gc, .int a1]) (n := 3) (Nat.le_of_ble_eq_true rfl)
  rw [lg_entry_eq]
  generalize (lg_sl ([.ref gc, .int a1]) ++ List.replicate (3 - (lg_sl ([.ref gc, .int a1])).length) Slot.unset).toArray = ls at hl ⊢
  have hl : lv_has ls 3 [(0, .ref gc), (1, .int a1)] := hl
  generalize hQ : MQ _ _ _ _ _ _ _ = Q
  obtain ⟨H, hHe⟩ : ∃ H : Heap, H = s.heap := ⟨_, rfl⟩
  obtain ⟨locs, hle⟩ : ∃ L : List Loc, L = [] := ⟨_, rfl⟩
  have hP : va_P D vwCl (kX3 cB cI gc me ba rg wa sm v_im v_ei v_ha v_hb v_cy v_by v_ct v_wd) H := by rw [hHe]; exact hP
  have hS : va_S A s.heap H locs := by rw [hHe, hle]; exact hS
  refine kw_start hHe.symm hle.symm ?_
  have hf : fX3_dispatch v_im v_ha v_by v_ct v_wd a1 = fX3_dispatch v_im v_ha v_by v_ct v_wd a1 := rfl
  refine lv_iconst (v := 0) hx hb dX3_dispatch_0 (by decide) ?_
  refine lv_istore_n (lv' := [(2, .int (0 : Int32)), (0, .ref gc), (1, .int a1)]) hx hb dX3_dispatch_1 rfl hl (by decide) rfl (fun ls hl => ?_)
  have hLp : ∀ (n9 : Nat) (x1 : Int32), kT 4 x1 n9 → fX3_dispatch v_im v_ha v_by v_ct v_wd a1 = kIt (fX3_dispatch_L v_by v_ct v_wd a1) (v_im, v_ha, v_by, v_ct, v_wd) n9 x1 → ∀ (H : Heap) (locs : List Loc) (ls : Array Slot), lv_has ls 3 [(2, .int x1), (0, .ref gc), (1, .int a1)] → va_P D vwCl (kX3 cB cI gc me ba rg wa sm v_im v_ei v_ha v_hb v_cy v_by v_ct v_wd) H → va_D A (kX3 cB cI gc me ba rg wa sm v_im v_ei v_ha v_hb v_cy v_by v_ct v_wd) → va_S A s.heap H locs → W p l e (headSpec wwX3_dispatch rmX3_dispatch).room s m ([.ref gc, .int a1] : List Value).toArray below meth c H locs 0 0 Q (F0 m 2 ls []) := by
    intro n9
    induction n9 with
    | zero => intro x1 ht9 hF H locs ls hl hP hD hS; exact absurd ht9 kT_0
    | succ n9 ih =>
      intro x1 ht9 hF H locs ls hl hP hD hS
      have hf : fX3_dispatch_L v_by v_ct v_wd a1 x1 = _ := kE1 rfl
      refine lv_iload_n hx hb dX3_dispatch_2 rfl (lv_at hl 0 rfl) ?_
      refine lv_iconst (v := 4) hx hb dX3_dispatch_3 (by decide) ?_
      refine lv_icmp_ge (tgt := 21) hx hb dX3_dispatch_4 (by decide) (fun c2 => ?_) (fun c2 => ?_)
      · have hf := hf.trans (kt_le c2)
        refine lv_aload_n hx hb dX3_dispatch_21 rfl (lv_at hl 1 rfl) ?_
        refine lv_iconst (v := 0) hx hb dX3_dispatch_22 (by decide) ?_
        refine va_put (D := D) (ci := 3) (v := .int (bI false)) (ty := .boolean) (C := RX3) (T := TX3) (N := 8) hx hb hws inlX3 tyX3 tyX3_ok nmX3 hown hK hP hD hS 0 rfl rfl 3 (by decide) (hws _ mw_105) (fun _ h9 => h9) rfl (tyX3_ok 3 (by decide)) (bI_nar _) (bI_fit _) (Nat.le_of_ble_eq_true rfl) dX3_dispatch_23 (fun H locs hP hD hS => ?_)
        have hP : va_P D vwCl (kX3 cB cI gc me ba rg wa sm false v_ei v_ha v_hb v_cy v_by v_ct v_wd) H := hP
        have hD : va_D A (kX3 cB cI gc me ba rg wa sm false v_ei v_ha v_hb v_cy v_by v_ct v_wd) := hD
        refine lv_aload_n hx hb dX3_dispatch_26 rfl (lv_at hl 1 rfl) ?_
        refine lv_iconst (v := 0) hx hb dX3_dispatch_27 (by decide) ?_
        refine va_put (D := D) (ci := 3) (v := .int (bI false)) (ty := .boolean) (C := RX3) (T := TX3) (N := 8) hx hb hws inlX3 tyX3 tyX3_ok nmX3 hown hK hP hD hS 0 rfl rfl 5 (by decide) (hws _ mw_106) (fun _ h9 => h9) rfl (tyX3_ok 5 (by decide)) (bI_nar _) (bI_fit _) (Nat.le_of_ble_eq_true rfl) dX3_dispatch_28 (fun H locs hP hD hS => ?_)
        have hP : va_P D vwCl (kX3 cB cI gc me ba rg wa sm false v_ei false v_hb v_cy v_by v_ct v_wd) H := hP
        have hD : va_D A (kX3 cB cI gc me ba rg wa sm false v_ei false v_hb v_cy v_by v_ct v_wd) := hD
        refine lv_aload_n hx hb dX3_dispatch_31 rfl (lv_at hl 1 rfl) ?_
        refine va_get (D := D) (ci := 3) (v := .ref me) (C := RX3) (T := TX3) (N := 8) hx hb hws inlX3 hown hK hP 0 rfl rfl 0 (by decide) (hws _ mw_15) (fun _ h9 => h9) rfl dX3_dispatch_32 ?_
        refine lv_iload_n hx hb dX3_dispatch_35 rfl (lv_at hl 0 rfl) ?_
        refine kc_Vv (wr := [(gc, .inr (3, [.ref me, .ref rg, .ref sm, .int (bI false), .int (bI v_ei), .int (bI false), .int (bI v_hb), .int v_cy])), (rg, .inr (1, [.ref wa])), (wa, .inl (cI, 6, .inl v_wd)), (sm, .inr (2, [.ref rg]))]) (As := [.int x1]) (rest := []) (fun u9 => (kX3 cB cI gc me ba rg wa sm false v_ei false v_hb v_cy u9 v_ct v_wd)) ⟨hx, hb, hml, hown, hws⟩ hK hP hD hS hA hT (c_X0_clearInterrupt l D cB me ba H.size v_by v_ct x1) (cwV 1 hws (gw_V mw_119 mw_120 mw_121 mw_14 mw_122) rfl rfl rfl hdX0_clearInterrupt ⟨Nat.le_of_ble_eq_true rfl, Nat.le_of_ble_eq_true rfl⟩) [1, 2] [0, 3, 4, 5] [0] [0, 4, 5, 1, 2, 3] rfl rfl rfl rfl (by decide) rfl (fun _ => rfl) rfl 1 rfl rfl rfl rfl hl.1 rfl (Nat.le_of_ble_eq_true rfl) dX3_dispatch_36 ⟨Nat.zero_le _, Nat.zero_le _⟩ (fun b3 H locs hw4 hP hD hS => ?_)
        have hP : va_P D vwCl (kX3 cB cI gc me ba rg wa sm false v_ei false v_hb v_cy b3 v_ct v_wd) H := hP
        have hD : va_D A (kX3 cB cI gc me ba rg wa sm false v_ei false v_hb v_cy b3 v_ct v_wd) := hD
        have hf := hf.trans (kE1 hw4)
        refine lv_aload_n hx hb dX3_dispatch_39 rfl (lv_at hl 1 rfl) ?_
        refine lv_aload_n hx hb dX3_dispatch_40 rfl (lv_at hl 1 rfl) ?_
        refine va_get (D := D) (ci := 3) (v := .ref rg) (C := RX3) (T := TX3) (N := 8) hx hb hws inlX3 hown hK hP 0 rfl rfl 1 (by decide) (hws _ mw_20) (fun _ h9 => h9) rfl dX3_dispatch_41 ?_
        refine lv_iconst (v := 5) hx hb dX3_dispatch_44 (by decide) ?_
        refine kc_Vi (wr := [(gc, .inr (3, [.ref me, .ref rg, .ref sm, .int (bI false), .int (bI v_ei), .int (bI false), .int (bI v_hb), .int v_cy])), (me, .inr (0, [.ref ba, .int v_ct])), (ba, .inl (cB, 65536, .inl b3)), (sm, .inr (2, [.ref rg]))]) (As := [.int (5 : Int32)]) (rest := [.ref gc]) (fun _ => (kX3 cB cI gc me ba rg wa sm false v_ei false v_hb v_cy b3 v_ct v_wd)) ⟨hx, hb, hml, hown, hws⟩ hK hP hD hS hA hT (c_X1_word l D cI rg wa H.size v_wd (5 : Int32)) (cwV 1 hws (gw_V mw_123 mw_124 mw_125 mw_32 mw_126) rfl rfl rfl hdX1_word ⟨Nat.le_of_ble_eq_true rfl, Nat.le_of_ble_eq_true rfl⟩) [3, 4] [0, 1, 2, 5] [1] [0, 1, 2, 4, 5, 3] rfl rfl rfl rfl (by decide) rfl (fun _ => rfl) rfl 3 rfl rfl rfl rfl hl.1 rfl (Nat.le_of_ble_eq_true rfl) dX3_dispatch_45 ⟨Nat.zero_le _, Nat.zero_le _⟩ (fun r6 _ H locs hw5 hP hD hS => ?_)
        have hP : va_P D vwCl (kX3 cB cI gc me ba rg wa sm false v_ei false v_hb v_cy b3 v_ct v_wd) H := hP
        have hD : va_D A (kX3 cB cI gc me ba rg wa sm false v_ei false v_hb v_cy b3 v_ct v_wd) := hD
        have hf := hf.trans (kE1 hw5)
        refine kc_Vv (wr := []) (As := [.int r6]) (rest := []) (fun u9 => (kX3 cB cI gc me ba rg wa sm false v_ei false v_hb v_cy (u9.1) (u9.2.1) (u9.2.2))) ⟨hx, hb, hml, hown, hws⟩ hK hP hD hS hA hT (c_X3_push l D cB cI gc me ba rg wa sm H.size false v_ei false v_hb v_cy b3 v_ct v_wd r6) (cwV 1 hws (gw_V mw_127 mw_128 mw_129 mw_2 mw_130) rfl rfl rfl hdX3_push ⟨Nat.le_of_ble_eq_true rfl, Nat.le_of_ble_eq_true rfl⟩) [0, 1, 2, 3, 4, 5] [] [0, 1] [0, 1, 2, 3, 4, 5] rfl rfl rfl rfl (by decide) rfl (fun _ => rfl) rfl 0 rfl rfl rfl rfl hl.1 rfl (Nat.le_of_ble_eq_true rfl) dX3_dispatch_48 ⟨Nat.zero_le _, Nat.zero_le _⟩ (fun u9 H locs hw10 hP hD hS => ?_)
        obtain ⟨b7, b8, b9⟩ := u9
        have hP : va_P D vwCl (kX3 cB cI gc me ba rg wa sm false v_ei false v_hb v_cy b7 b8 b9) H := hP
        have hD : va_D A (kX3 cB cI gc me ba rg wa sm false v_ei false v_hb v_cy b7 b8 b9) := hD
        have hf := hf.trans (kE3 hw10)
        refine lv_aload_n hx hb dX3_dispatch_51 rfl (lv_at hl 1 rfl) ?_
        refine va_get (D := D) (ci := 3) (v := .ref rg) (C := RX3) (T := TX3) (N := 8) hx hb hws inlX3 hown hK hP 0 rfl rfl 1 (by decide) (hws _ mw_20) (fun _ h9 => h9) rfl dX3_dispatch_52 ?_
        refine lv_iconst (v := 5) hx hb dX3_dispatch_55 (by decide) ?_
        refine lv_bipush (v := 64) hx hb dX3_dispatch_56 (by decide) ?_
        refine lv_bipush (v := 8) hx hb dX3_dispatch_58 (by decide) ?_
        refine lv_iload_n hx hb dX3_dispatch_60 rfl (lv_at hl 0 rfl) ?_
        refine lv_imul hx hb dX3_dispatch_61 ?_
        refine lv_iadd hx hb dX3_dispatch_62 ?_
        refine kc_Vi (wr := [(gc, .inr (3, [.ref me, .ref rg, .ref sm, .int (bI false), .int (bI v_ei), .int (bI false), .int (bI v_hb), .int v_cy])), (me, .inr (0, [.ref ba, .int b8])), (ba, .inl (cB, 65536, .inl b7)), (sm, .inr (2, [.ref rg]))]) (As := [.int (5 : Int32), .int ((64 : Int32) + ((8 : Int32) * x1))]) (rest := []) (fun u9 => (kX3 cB cI gc me ba rg wa sm false v_ei false v_hb v_cy b7 b8 u9)) ⟨hx, hb, hml, hown, hws⟩ hK hP hD hS hA hT (c_X1_setWord l D cI rg wa H.size b9 (5 : Int32) ((64 : Int32) + ((8 : Int32) * x1))) (cwV 2 hws (gw_V mw_137 mw_138 mw_139 mw_32 mw_140) rfl rfl rfl hdX1_setWord ⟨Nat.le_of_ble_eq_true rfl, Nat.le_of_ble_eq_true rfl⟩) [3, 4] [0, 1, 2, 5] [1] [0, 1, 2, 4, 5, 3] rfl rfl rfl rfl (by decide) rfl (fun _ => rfl) rfl 3 rfl rfl rfl rfl hl.1 rfl (Nat.le_of_ble_eq_true rfl) dX3_dispatch_63 ⟨Nat.zero_le _, Nat.zero_le _⟩ (fun r13 b11 H locs hw12 hP hD hS => ?_)
        obtain ⟨z14, rfl, hw12⟩ := hw12
        have hP : va_P D vwCl (kX3 cB cI gc me ba rg wa sm false v_ei false v_hb v_cy b7 b8 b11) H := hP
        have hD : va_D A (kX3 cB cI gc me ba rg wa sm false v_ei false v_hb v_cy b7 b8 b11) := hD
        have hf := hf.trans (kE2 hw12)
        refine lv_pop hx hb dX3_dispatch_66 rfl ?_
        have hf := hF.trans (kI_inr hf)
        rw [← hQ]
        exact W.vret hx hb hr (fun t ht hW => ⟨⟨(false, false, b7, b8, b11), rfl, hf.symm, by rw [ht]; exact hP, va_K.moved hW.alike hK, hD⟩, hS.F ht⟩) hS.2.2 dX3_dispatch_67
      · have hf := hf.trans (kf_le c2)
        refine lv_iload_n hx hb dX3_dispatch_7 rfl (lv_at hl 2 rfl) ?_
        refine lv_iload_n hx hb dX3_dispatch_8 rfl (lv_at hl 0 rfl) ?_
        refine lv_ishr hx hb dX3_dispatch_9 ?_
        refine lv_iconst (v := 1) hx hb dX3_dispatch_10 (by decide) ?_
        refine lv_iand hx hb dX3_dispatch_11 ?_
        refine lv_if_ne (tgt := 21) hx hb dX3_dispatch_12 (by decide) (fun c15 => ?_) (fun c15 => ?_)
        · have hf := hf.trans (kf_eq c15)
          refine lv_aload_n hx hb dX3_dispatch_21 rfl (lv_at hl 1 rfl) ?_
          refine lv_iconst (v := 0) hx hb dX3_dispatch_22 (by decide) ?_
          refine va_put (D := D) (ci := 3) (v := .int (bI false)) (ty := .boolean) (C := RX3) (T := TX3) (N := 8) hx hb hws inlX3 tyX3 tyX3_ok nmX3 hown hK hP hD hS 0 rfl rfl 3 (by decide) (hws _ mw_105) (fun _ h9 => h9) rfl (tyX3_ok 3 (by decide)) (bI_nar _) (bI_fit _) (Nat.le_of_ble_eq_true rfl) dX3_dispatch_23 (fun H locs hP hD hS => ?_)
          have hP : va_P D vwCl (kX3 cB cI gc me ba rg wa sm false v_ei v_ha v_hb v_cy v_by v_ct v_wd) H := hP
          have hD : va_D A (kX3 cB cI gc me ba rg wa sm false v_ei v_ha v_hb v_cy v_by v_ct v_wd) := hD
          refine lv_aload_n hx hb dX3_dispatch_26 rfl (lv_at hl 1 rfl) ?_
          refine lv_iconst (v := 0) hx hb dX3_dispatch_27 (by decide) ?_
          refine va_put (D := D) (ci := 3) (v := .int (bI false)) (ty := .boolean) (C := RX3) (T := TX3) (N := 8) hx hb hws inlX3 tyX3 tyX3_ok nmX3 hown hK hP hD hS 0 rfl rfl 5 (by decide) (hws _ mw_106) (fun _ h9 => h9) rfl (tyX3_ok 5 (by decide)) (bI_nar _) (bI_fit _) (Nat.le_of_ble_eq_true rfl) dX3_dispatch_28 (fun H locs hP hD hS => ?_)
          have hP : va_P D vwCl (kX3 cB cI gc me ba rg wa sm false v_ei false v_hb v_cy v_by v_ct v_wd) H := hP
          have hD : va_D A (kX3 cB cI gc me ba rg wa sm false v_ei false v_hb v_cy v_by v_ct v_wd) := hD
          refine lv_aload_n hx hb dX3_dispatch_31 rfl (lv_at hl 1 rfl) ?_
          refine va_get (D := D) (ci := 3) (v := .ref me) (C := RX3) (T := TX3) (N := 8) hx hb hws inlX3 hown hK hP 0 rfl rfl 0 (by decide) (hws _ mw_15) (fun _ h9 => h9) rfl dX3_dispatch_32 ?_
          refine lv_iload_n hx hb dX3_dispatch_35 rfl (lv_at hl 0 rfl) ?_
          refine kc_Vv (wr := [(gc, .inr (3, [.ref me, .ref rg, .ref sm, .int (bI false), .int (bI v_ei), .int (bI false), .int (bI v_hb), .int v_cy])), (rg, .inr (1, [.ref wa])), (wa, .inl (cI, 6, .inl v_wd)), (sm, .inr (2, [.ref rg]))]) (As := [.int x1]) (rest := []) (fun u9 => (kX3 cB cI gc me ba rg wa sm false v_ei false v_hb v_cy u9 v_ct v_wd)) ⟨hx, hb, hml, hown, hws⟩ hK hP hD hS hA hT (c_X0_clearInterrupt l D cB me ba H.size v_by v_ct x1) (cwV 1 hws (gw_V mw_119 mw_120 mw_121 mw_14 mw_122) rfl rfl rfl hdX0_clearInterrupt ⟨Nat.le_of_ble_eq_true rfl, Nat.le_of_ble_eq_true rfl⟩) [1, 2] [0, 3, 4, 5] [0] [0, 4, 5, 1, 2, 3] rfl rfl rfl rfl (by decide) rfl (fun _ => rfl) rfl 1 rfl rfl rfl rfl hl.1 rfl (Nat.le_of_ble_eq_true rfl) dX3_dispatch_36 ⟨Nat.zero_le _, Nat.zero_le _⟩ (fun b16 H locs hw17 hP hD hS => ?_)
          have hP : va_P D vwCl (kX3 cB cI gc me ba rg wa sm false v_ei false v_hb v_cy b16 v_ct v_wd) H := hP
          have hD : va_D A (kX3 cB cI gc me ba rg wa sm false v_ei false v_hb v_cy b16 v_ct v_wd) := hD
          have hf := hf.trans (kE1 hw17)
          refine lv_aload_n hx hb dX3_dispatch_39 rfl (lv_at hl 1 rfl) ?_
          refine lv_aload_n hx hb dX3_dispatch_40 rfl (lv_at hl 1 rfl) ?_
          refine va_get (D := D) (ci := 3) (v := .ref rg) (C := RX3) (T := TX3) (N := 8) hx hb hws inlX3 hown hK hP 0 rfl rfl 1 (by decide) (hws _ mw_20) (fun _ h9 => h9) rfl dX3_dispatch_41 ?_
          refine lv_iconst (v := 5) hx hb dX3_dispatch_44 (by decide) ?_
          refine kc_Vi (wr := [(gc, .inr (3, [.ref me, .ref rg, .ref sm, .int (bI false), .int (bI v_ei), .int (bI false), .int (bI v_hb), .int v_cy])), (me, .inr (0, [.ref ba, .int v_ct])), (ba, .inl (cB, 65536, .inl b16)), (sm, .inr (2, [.ref rg]))]) (As := [.int (5 : Int32)]) (rest := [.ref gc]) (fun _ => (kX3 cB cI gc me ba rg wa sm false v_ei false v_hb v_cy b16 v_ct v_wd)) ⟨hx, hb, hml, hown, hws⟩ hK hP hD hS hA hT (c_X1_word l D cI rg wa H.size v_wd (5 : Int32)) (cwV 1 hws (gw_V mw_123 mw_124 mw_125 mw_32 mw_126) rfl rfl rfl hdX1_word ⟨Nat.le_of_ble_eq_true rfl, Nat.le_of_ble_eq_true rfl⟩) [3, 4] [0, 1, 2, 5] [1] [0, 1, 2, 4, 5, 3] rfl rfl rfl rfl (by decide) rfl (fun _ => rfl) rfl 3 rfl rfl rfl rfl hl.1 rfl (Nat.le_of_ble_eq_true rfl) dX3_dispatch_45 ⟨Nat.zero_le _, Nat.zero_le _⟩ (fun r19 _ H locs hw18 hP hD hS => ?_)
          have hP : va_P D vwCl (kX3 cB cI gc me ba rg wa sm false v_ei false v_hb v_cy b16 v_ct v_wd) H := hP
          have hD : va_D A (kX3 cB cI gc me ba rg wa sm false v_ei false v_hb v_cy b16 v_ct v_wd) := hD
          have hf := hf.trans (kE1 hw18)
          refine kc_Vv (wr := []) (As := [.int r19]) (rest := []) (fun u9 => (kX3 cB cI gc me ba rg wa sm false v_ei false v_hb v_cy (u9.1) (u9.2.1) (u9.2.2))) ⟨hx, hb, hml, hown, hws⟩ hK hP hD hS hA hT (c_X3_push l D cB cI gc me ba rg wa sm H.size false v_ei false v_hb v_cy b16 v_ct v_wd r19) (cwV 1 hws (gw_V mw_127 mw_128 mw_129 mw_2 mw_130) rfl rfl rfl hdX3_push ⟨Nat.le_of_ble_eq_true rfl, Nat.le_of_ble_eq_true rfl⟩) [0, 1, 2, 3, 4, 5] [] [0, 1] [0, 1, 2, 3, 4, 5] rfl rfl rfl rfl (by decide) rfl (fun _ => rfl) rfl 0 rfl rfl rfl rfl hl.1 rfl (Nat.le_of_ble_eq_true rfl) dX3_dispatch_48 ⟨Nat.zero_le _, Nat.zero_le _⟩ (fun u9 H locs hw23 hP hD hS => ?_)
          obtain ⟨b20, b21, b22⟩ := u9
          have hP : va_P D vwCl (kX3 cB cI gc me ba rg wa sm false v_ei false v_hb v_cy b20 b21 b22) H := hP
          have hD : va_D A (kX3 cB cI gc me ba rg wa sm false v_ei false v_hb v_cy b20 b21 b22) := hD
          have hf := hf.trans (kE3 hw23)
          refine lv_aload_n hx hb dX3_dispatch_51 rfl (lv_at hl 1 rfl) ?_
          refine va_get (D := D) (ci := 3) (v := .ref rg) (C := RX3) (T := TX3) (N := 8) hx hb hws inlX3 hown hK hP 0 rfl rfl 1 (by decide) (hws _ mw_20) (fun _ h9 => h9) rfl dX3_dispatch_52 ?_
          refine lv_iconst (v := 5) hx hb dX3_dispatch_55 (by decide) ?_
          refine lv_bipush (v := 64) hx hb dX3_dispatch_56 (by decide) ?_
          refine lv_bipush (v := 8) hx hb dX3_dispatch_58 (by decide) ?_
          refine lv_iload_n hx hb dX3_dispatch_60 rfl (lv_at hl 0 rfl) ?_
          refine lv_imul hx hb dX3_dispatch_61 ?_
          refine lv_iadd hx hb dX3_dispatch_62 ?_
          refine kc_Vi (wr := [(gc, .inr (3, [.ref me, .ref rg, .ref sm, .int (bI false), .int (bI v_ei), .int (bI false), .int (bI v_hb), .int v_cy])), (me, .inr (0, [.ref ba, .int b21])), (ba, .inl (cB, 65536, .inl b20)), (sm, .inr (2, [.ref rg]))]) (As := [.int (5 : Int32), .int ((64 : Int32) + ((8 : Int32) * x1))]) (rest := []) (fun u9 => (kX3 cB cI gc me ba rg wa sm false v_ei false v_hb v_cy b20 b21 u9)) ⟨hx, hb, hml, hown, hws⟩ hK hP hD hS hA hT (c_X1_setWord l D cI rg wa H.size b22 (5 : Int32) ((64 : Int32) + ((8 : Int32) * x1))) (cwV 2 hws (gw_V mw_137 mw_138 mw_139 mw_32 mw_140) rfl rfl rfl hdX1_setWord ⟨Nat.le_of_ble_eq_true rfl, Nat.le_of_ble_eq_true rfl⟩) [3, 4] [0, 1, 2, 5] [1] [0, 1, 2, 4, 5, 3] rfl rfl rfl rfl (by decide) rfl (fun _ => rfl) rfl 3 rfl rfl rfl rfl hl.1 rfl (Nat.le_of_ble_eq_true rfl) dX3_dispatch_63 ⟨Nat.zero_le _, Nat.zero_le _⟩ (fun r26 b24 H locs hw25 hP hD hS => ?_)
          obtain ⟨z27, rfl, hw25⟩ := hw25
          have hP : va_P D vwCl (kX3 cB cI gc me ba rg wa sm false v_ei false v_hb v_cy b20 b21 b24) H := hP
          have hD : va_D A (kX3 cB cI gc me ba rg wa sm false v_ei false v_hb v_cy b20 b21 b24) := hD
          have hf := hf.trans (kE2 hw25)
          refine lv_pop hx hb dX3_dispatch_66 rfl ?_
          have hf := hF.trans (kI_inr hf)
          rw [← hQ]
          exact W.vret hx hb hr (fun t ht hW => ⟨⟨(false, false, b20, b21, b24), rfl, hf.symm, by rw [ht]; exact hP, va_K.moved hW.alike hK, hD⟩, hS.F ht⟩) hS.2.2 dX3_dispatch_67
        · have hf := hf.trans (kt_eq c15)
          obtain ⟨x28, ex28⟩ : ∃ y9 : Int32, y9 = x1 + (1 : Int32) := ⟨_, rfl⟩
          have hf := hf.trans (kE1 ex28)
          refine lv_iinc (v := x28) (lv' := [(2, .int x28), (0, .ref gc), (1, .int a1)]) hx hb dX3_dispatch_15 hl (k := 0) rfl (by rw [ex28]; rfl) (by decide) rfl (fun ls hl => ?_)
          refine lv_goto (tgt := 2) hx hb dX3_dispatch_18 (by decide) ?_
          exact ih x28 (kT_step ex28 (by decide) rfl c2 ht9) (hF.trans (kI_inl hf)) H locs ls (lv_sub hl [0, 1, 2] rfl) hP hD hS
  exact hLp 5 (0 : Int32) (kT_init 4) hf H locs ls (lv_sub hl [0, 1, 2] rfl) hP hD hS
def fX3_pass_L (a1 : Int32) (x1 : Int32) (q9 : Int32 × (Nat → Int32) × Int32) : (Int32 × (Nat → Int32) × Int32) ⊕ (Int32 × (Nat → Int32) × Int32) := kU3 q9 (fun (x2 : Int32) (b3 : Nat → Int32) (b4 : Int32) => (kIf (kLe a1 x2) (Sum.inr (x1, b3, b4)) (kU2 (fX0_tick b3 b4) (fun (b6 : Nat → Int32) (b7 : Int32) => (kU1 (x2 + (1 : Int32)) (fun (x9 : Int32) => Sum.inl (x9, b6, b7)))))))
def fX3_pass (v_cy : Int32) (v_by : Nat → Int32) (v_ct : Int32) (a1 : Int32) : Int32 × (Nat → Int32) × Int32 := (kU1 (((v_cy + a1) &&& (1073741823 : Int32))) (fun (x1 : Int32) => (kIt (fX3_pass_L a1 x1) (x1, v_by, v_ct) (a1.toNatClampNeg + 1) ((0 : Int32), v_by, v_ct))))
def rmX3_pass : Room := { frames := 4, cells := 0, slots := 0, locals := 84 }
def wwX3_pass : List Cond := Cond.code yX3_pass cX3_pass 3 none :: wsL_law
theorem hdX3_pass : yX3_pass.cls = RX3 ∧ yX3_pass.cls ≠ "java/lang/invoke/MethodHandle" ∧ yX3_pass.cls ≠ "java/lang/invoke/VarHandle" ∧ (parseMethodDescriptor yX3_pass.desc).map (fun d => d.parameters.length) = some 1 := by decide +kernel
set_option maxHeartbeats 4000000 in
set_option maxRecDepth 100000 in
theorem c_X3_pass (l : Launch) (D : va_G) (cB : ClassId) (cI : ClassId) (gc me ba rg wa sm sz : Nat) (v_im : Bool) (v_ei : Bool) (v_ha : Bool) (v_hb : Bool) (v_cy : Int32) (v_by : Nat → Int32) (v_ct : Int32) (v_wd : Nat → Int32) (a1 : Int32)  : Met l yX3_pass wwX3_pass rmX3_pass (va_Pc [.ref gc, .int a1] (kp D (kX3 cB cI gc me ba rg wa sm v_im v_ei v_ha v_hb v_cy v_by v_ct v_wd) [(cB, .byte), (cI, .int)] sz)) (va_Qv (fun (u9 : Int32 × (Nat → Int32) × Int32) => u9 = fX3_pass v_cy v_by v_ct a1) (fun u9 t => kq D (kX3 cB cI gc me ba rg wa sm v_im v_ei v_ha v_hb (u9.1) (u9.2.1) (u9.2.2) v_wd) [(cB, .byte), (cI, .int)] (va_A (kX3 cB cI gc me ba rg wa sm v_im v_ei v_ha v_hb v_cy v_by v_ct v_wd) sz) t) (va_A (kX3 cB cI gc me ba rg wa sm v_im v_ei v_ha v_hb v_cy v_by v_ct v_wd) sz)) 0 0 (va_A (kX3 cB cI gc me ba rg wa sm v_im v_ei v_ha v_hb v_cy v_by v_ct v_wd) sz) := by
  refine Met.ofW (cc := cX3_pass) (maxL := 3) (ret := none) (by decide) rfl ?_
  intro p e s m args below meth c s₁ B hml hv
  obtain ⟨rfl, hsz, hP, hK, hD0, hT⟩ := hv
  have hx := B.exec
  have hb := B.bytes
  have hr := B.returns
  have hts := atoms_spec (ws := wwX3_pass) B.pre
  have hws : ∀ w ∈ wsL_law, w.before _ s = true := fun w h => hts w (List.mem_cons_of_mem _ h)
  have hown : s.vm.findClass RX3 = some m.cls := findClass_of_methodNamed B.named
  have hlocks := B.notSynchronized
  subst hsz
  have hD := hD0.self (sz := s.heap.size)
  generalize hAe : va_A (kX3 cB cI gc me ba rg wa sm v_im v_ei v_ha v_hb v_cy v_by v_ct v_wd) s.heap.size = A at hD hT ⊢
  have hA : ∀ q : Nat, s.heap.size ≤ q → A q := fun q h => by rw [← hAe]; exact Or.inr h
  have hS : va_S A s.heap s.heap [] := va_S.rf
  have hl := lv_entry ([.ref gc, .int a1]) (n := 3) (Nat.le_of_ble_eq_true rfl)
  rw [lg_entry_eq]
  generalize (lg_sl ([.ref gc, .int a1]) ++ List.replicate (3 - (lg_sl ([.ref gc, .int a1])).length) Slot.unset).toArray = ls at hl ⊢
  have hl : lv_has ls 3 [(0, .ref gc), (1, .int a1)] := hl
  generalize hQ : MQ _ _ _ _ _ _ _ = Q
  obtain ⟨H, hHe⟩ : ∃ H : Heap, H = s.heap := ⟨_, rfl⟩
  obtain ⟨locs, hle⟩ : ∃ L : List Loc, L = [] := ⟨_, rfl⟩
  have hP : va_P D vwCl (kX3 cB cI gc me ba rg wa sm v_im v_ei v_ha v_hb v_cy v_by v_ct v_wd) H := by rw [hHe]; exact hP
  have hS : va_S A s.heap H locs := by rw [hHe, hle]; exact hS
  refine kw_start hHe.symm hle.symm ?_
  have hf : fX3_pass v_cy v_by v_ct a1 = fX3_pass v_cy v_by v_ct a1 := rfl
  refine lv_aload_n hx hb dX3_pass_0 rfl (lv_at hl 0 rfl) ?_
  refine lv_aload_n hx hb dX3_pass_1 rfl (lv_at hl 0 rfl) ?_
  refine va_get (D := D) (ci := 3) (v := .int v_cy) (C := RX3) (T := TX3) (N := 8) hx hb hws inlX3 hown hK hP 0 rfl rfl 7 (by decide) (hws _ mw_147) (fun _ h9 => h9) rfl dX3_pass_2 ?_
  refine lv_iload_n hx hb dX3_pass_5 rfl (lv_at hl 1 rfl) ?_
  refine lv_iadd hx hb dX3_pass_6 ?_
  refine lv_ldc (v := 1073741823) hx hb hown (hws _ mw_148) dX3_pass_7 ?_
  refine lv_iand hx hb dX3_pass_9 ?_
  refine lv_topi (fun x1 ex1 => ?_)
  have hf := hf.trans (kE1 ex1)
  refine va_put (D := D) (ci := 3) (v := .int x1) (ty := .int) (C := RX3) (T := TX3) (N := 8) hx hb hws inlX3 tyX3 tyX3_ok nmX3 hown hK hP hD hS 0 rfl rfl 7 (by decide) (hws _ mw_147) (fun _ h9 => h9) rfl (tyX3_ok 7 (by decide)) rfl rfl (Nat.le_of_ble_eq_true rfl) dX3_pass_10 (fun H locs hP hD hS => ?_)
  have hP : va_P D vwCl (kX3 cB cI gc me ba rg wa sm v_im v_ei v_ha v_hb x1 v_by v_ct v_wd) H := hP
  have hD : va_D A (kX3 cB cI gc me ba rg wa sm v_im v_ei v_ha v_hb x1 v_by v_ct v_wd) := hD
  refine lv_iconst (v := 0) hx hb dX3_pass_13 (by decide) ?_
  refine lv_istore_n (lv' := [(2, .int (0 : Int32)), (0, .ref gc), (1, .int a1)]) hx hb dX3_pass_14 rfl hl (by decide) rfl (fun ls hl => ?_)
  have hLp : ∀ (n9 : Nat) (x2 : Int32) (b3 : Nat → Int32) (b4 : Int32), kT a1.toNatClampNeg x2 n9 → fX3_pass v_cy v_by v_ct a1 = kIt (fX3_pass_L a1 x1) (x1, v_by, v_ct) n9 (x2, b3, b4) → ∀ (H : Heap) (locs : List Loc) (ls : Array Slot), lv_has ls 3 [(2, .int x2), (0, .ref gc), (1, .int a1)] → va_P D vwCl (kX3 cB cI gc me ba rg wa sm v_im v_ei v_ha v_hb x1 b3 b4 v_wd) H → va_D A (kX3 cB cI gc me ba rg wa sm v_im v_ei v_ha v_hb x1 b3 b4 v_wd) → va_S A s.heap H locs → W p l e (headSpec wwX3_pass rmX3_pass).room s m ([.ref gc, .int a1] : List Value).toArray below meth c H locs 0 0 Q (F0 m 15 ls []) := by
    intro n9
    induction n9 with
    | zero => intro x2 b3 b4 ht9 hF H locs ls hl hP hD hS; exact absurd ht9 kT_0
    | succ n9 ih =>
      intro x2 b3 b4 ht9 hF H locs ls hl hP hD hS
      have hf : fX3_pass_L a1 x1 (x2, b3, b4) = _ := kE3 rfl
      refine lv_iload_n hx hb dX3_pass_15 rfl (lv_at hl 0 rfl) ?_
      refine lv_iload_n hx hb dX3_pass_16 rfl (lv_at hl 2 rfl) ?_
      refine lv_icmp_ge (tgt := 33) hx hb dX3_pass_17 (by decide) (fun c5 => ?_) (fun c5 => ?_)
      · have hf := hf.trans (kt_le c5)
        have hf := hF.trans (kI_inr hf)
        rw [← hQ]
        exact W.vret hx hb hr (fun t ht hW => ⟨⟨(x1, b3, b4), rfl, hf.symm, by rw [ht]; exact hP, va_K.moved hW.alike hK, hD⟩, hS.F ht⟩) hS.2.2 dX3_pass_33
      · have hf := hf.trans (kf_le c5)
        refine lv_aload_n hx hb dX3_pass_20 rfl (lv_at hl 1 rfl) ?_
        refine va_get (D := D) (ci := 3) (v := .ref me) (C := RX3) (T := TX3) (N := 8) hx hb hws inlX3 hown hK hP 0 rfl rfl 0 (by decide) (hws _ mw_15) (fun _ h9 => h9) rfl dX3_pass_21 ?_
        refine kc_Vv (wr := [(gc, .inr (3, [.ref me, .ref rg, .ref sm, .int (bI v_im), .int (bI v_ei), .int (bI v_ha), .int (bI v_hb), .int x1])), (rg, .inr (1, [.ref wa])), (wa, .inl (cI, 6, .inl v_wd)), (sm, .inr (2, [.ref rg]))]) (As := []) (rest := []) (fun u9 => (kX3 cB cI gc me ba rg wa sm v_im v_ei v_ha v_hb x1 (u9.1) (u9.2) v_wd)) ⟨hx, hb, hml, hown, hws⟩ hK hP hD hS hA hT (c_X0_tick l D cB me ba H.size b3 b4 ) (cwV 0 hws (gw_V mw_149 mw_150 mw_151 mw_14 mw_152) rfl rfl rfl hdX0_tick ⟨Nat.le_of_ble_eq_true rfl, Nat.le_of_ble_eq_true rfl⟩) [1, 2] [0, 3, 4, 5] [0] [0, 4, 5, 1, 2, 3] rfl rfl rfl rfl (by decide) rfl (fun _ => rfl) rfl 1 rfl rfl rfl rfl hl.1 rfl (Nat.le_of_ble_eq_true rfl) dX3_pass_24 ⟨Nat.zero_le _, Nat.zero_le _⟩ (fun u9 H locs hw8 hP hD hS => ?_)
        obtain ⟨b6, b7⟩ := u9
        have hP : va_P D vwCl (kX3 cB cI gc me ba rg wa sm v_im v_ei v_ha v_hb x1 b6 b7 v_wd) H := hP
        have hD : va_D A (kX3 cB cI gc me ba rg wa sm v_im v_ei v_ha v_hb x1 b6 b7 v_wd) := hD
        have hf := hf.trans (kE2 hw8)
        obtain ⟨x9, ex9⟩ : ∃ y9 : Int32, y9 = x2 + (1 : Int32) := ⟨_, rfl⟩
        have hf := hf.trans (kE1 ex9)
        refine lv_iinc (v := x9) (lv' := [(2, .int x9), (0, .ref gc), (1, .int a1)]) hx hb dX3_pass_27 hl (k := 0) rfl (by rw [ex9]; rfl) (by decide) rfl (fun ls hl => ?_)
        refine lv_goto (tgt := 15) hx hb dX3_pass_30 (by decide) ?_
        exact ih x9 b6 b7 (kT_stepV ex9 c5 ht9) (hF.trans (kI_inl hf)) H locs ls (lv_sub hl [0, 1, 2] rfl) hP hD hS
  exact hLp (a1.toNatClampNeg + 1) (0 : Int32) v_by v_ct (kT_init a1.toNatClampNeg) hf H locs ls (lv_sub hl [0, 1, 2] rfl) hP hD hS
def fX3_leaveOpcode (v_hb : Bool) (v_wd : Nat → Int32)  : Bool × (Nat → Int32) := (kIf (kEq (bI v_hb) (0 : Int32)) (kU1 (fX1_word v_wd (5 : Int32)) (fun (r3 : Int32) => (kU2 (fX1_setWord v_wd (5 : Int32) (r3 + (1 : Int32))) (fun (z7 : Bool) (b4 : Nat → Int32) => (v_hb, b4))))) (false, v_wd))
def rmX3_leaveOpcode : Room := { frames := 1, cells := 0, slots := 0, locals := 22 }
def wwX3_leaveOpcode : List Cond := Cond.code yX3_leaveOpcode cX3_leaveOpcode 1 none :: wsL_law
theorem hdX3_leaveOpcode : yX3_leaveOpcode.cls = RX3 ∧ yX3_leaveOpcode.cls ≠ "java/lang/invoke/MethodHandle" ∧ yX3_leaveOpcode.cls ≠ "java/lang/invoke/VarHandle" ∧ (parseMethodDescriptor yX3_leaveOpcode.desc).map (fun d => d.parameters.length) = some 0 := by decide +kernel
set_option maxHeartbeats 4000000 in
set_option maxRecDepth 100000 in
theorem c_X3_leaveOpcode (l : Launch) (D : va_G) (cB : ClassId) (cI : ClassId) (gc me ba rg wa sm sz : Nat) (v_im : Bool) (v_ei : Bool) (v_ha : Bool) (v_hb : Bool) (v_cy : Int32) (v_by : Nat → Int32) (v_ct : Int32) (v_wd : Nat → Int32)   : Met l yX3_leaveOpcode wwX3_leaveOpcode rmX3_leaveOpcode (va_Pc [.ref gc] (kp D (kX3 cB cI gc me ba rg wa sm v_im v_ei v_ha v_hb v_cy v_by v_ct v_wd) [(cB, .byte), (cI, .int)] sz)) (va_Qv (fun (u9 : Bool × (Nat → Int32)) => u9 = fX3_leaveOpcode v_hb v_wd) (fun u9 t => kq D (kX3 cB cI gc me ba rg wa sm v_im v_ei v_ha (u9.1) v_cy v_by v_ct (u9.2)) [(cB, .byte), (cI, .int)] (va_A (kX3 cB cI gc me ba rg wa sm v_im v_ei v_ha v_hb v_cy v_by v_ct v_wd) sz) t) (va_A (kX3 cB cI gc me ba rg wa sm v_im v_ei v_ha v_hb v_cy v_by v_ct v_wd) sz)) 0 0 (va_A (kX3 cB cI gc me ba rg wa sm v_im v_ei v_ha v_hb v_cy v_by v_ct v_wd) sz) := by
  refine Met.ofW (cc := cX3_leaveOpcode) (maxL := 1) (ret := none) (by decide) rfl ?_
  intro p e s m args below meth c s₁ B hml hv
  obtain ⟨rfl, hsz, hP, hK, hD0, hT⟩ := hv
  have hx := B.exec
  have hb := B.bytes
  have hr := B.returns
  have hts := atoms_spec (ws := wwX3_leaveOpcode) B.pre
  have hws : ∀ w ∈ wsL_law, w.before _ s = true := fun w h => hts w (List.mem_cons_of_mem _ h)
  have hown : s.vm.findClass RX3 = some m.cls := findClass_of_methodNamed B.named
  have hlocks := B.notSynchronized
  subst hsz
  have hD := hD0.self (sz := s.heap.size)
  generalize hAe : va_A (kX3 cB cI gc me ba rg wa sm v_im v_ei v_ha v_hb v_cy v_by v_ct v_wd) s.heap.size = A at hD hT ⊢
  have hA : ∀ q : Nat, s.heap.size ≤ q → A q := fun q h => by rw [← hAe]; exact Or.inr h
  have hS : va_S A s.heap s.heap [] := va_S.rf
  have hl := lv_entry ([.ref gc]) (n := 1) (Nat.le_of_ble_eq_true rfl)
  rw [lg_entry_eq]
  generalize (lg_sl ([.ref gc]) ++ List.replicate (1 - (lg_sl ([.ref gc])).length) Slot.unset).toArray = ls at hl ⊢
  have hl : lv_has ls 1 [(0, .ref gc)] := hl
  generalize hQ : MQ _ _ _ _ _ _ _ = Q
  obtain ⟨H, hHe⟩ : ∃ H : Heap, H = s.heap := ⟨_, rfl⟩
  obtain ⟨locs, hle⟩ : ∃ L : List Loc, L = [] := ⟨_, rfl⟩
  have hP : va_P D vwCl (kX3 cB cI gc me ba rg wa sm v_im v_ei v_ha v_hb v_cy v_by v_ct v_wd) H := by rw [hHe]; exact hP
  have hS : va_S A s.heap H locs := by rw [hHe, hle]; exact hS
  refine kw_start hHe.symm hle.symm ?_
  have hf : fX3_leaveOpcode v_hb v_wd = fX3_leaveOpcode v_hb v_wd := rfl
  refine lv_aload_n hx hb dX3_leaveOpcode_0 rfl (lv_at hl 0 rfl) ?_
  refine va_get (D := D) (ci := 3) (v := .int (bI v_hb)) (C := RX3) (T := TX3) (N := 8) hx hb hws inlX3 hown hK hP 0 rfl rfl 6 (by decide) (hws _ mw_168) (fun _ h9 => h9) rfl dX3_leaveOpcode_1 ?_
  refine lv_if_eq (tgt := 15) hx hb dX3_leaveOpcode_4 (by decide) (fun c1 => ?_) (fun c1 => ?_)
  · have hf := hf.trans (kt_eq c1)
    refine lv_aload_n hx hb dX3_leaveOpcode_15 rfl (lv_at hl 0 rfl) ?_
    refine va_get (D := D) (ci := 3) (v := .ref rg) (C := RX3) (T := TX3) (N := 8) hx hb hws inlX3 hown hK hP 0 rfl rfl 1 (by decide) (hws _ mw_20) (fun _ h9 => h9) rfl dX3_leaveOpcode_16 ?_
    refine lv_iconst (v := 5) hx hb dX3_leaveOpcode_19 (by decide) ?_
    refine lv_aload_n hx hb dX3_leaveOpcode_20 rfl (lv_at hl 0 rfl) ?_
    refine va_get (D := D) (ci := 3) (v := .ref rg) (C := RX3) (T := TX3) (N := 8) hx hb hws inlX3 hown hK hP 0 rfl rfl 1 (by decide) (hws _ mw_20) (fun _ h9 => h9) rfl dX3_leaveOpcode_21 ?_
    refine lv_iconst (v := 5) hx hb dX3_leaveOpcode_24 (by decide) ?_
    refine kc_Vi (wr := [(gc, .inr (3, [.ref me, .ref rg, .ref sm, .int (bI v_im), .int (bI v_ei), .int (bI v_ha), .int (bI v_hb), .int v_cy])), (me, .inr (0, [.ref ba, .int v_ct])), (ba, .inl (cB, 65536, .inl v_by)), (sm, .inr (2, [.ref rg]))]) (As := [.int (5 : Int32)]) (rest := [.int (5 : Int32), .ref rg]) (fun _ => (kX3 cB cI gc me ba rg wa sm v_im v_ei v_ha v_hb v_cy v_by v_ct v_wd)) ⟨hx, hb, hml, hown, hws⟩ hK hP hD hS hA hT (c_X1_word l D cI rg wa H.size v_wd (5 : Int32)) (cwV 1 hws (gw_V mw_123 mw_124 mw_125 mw_32 mw_126) rfl rfl rfl hdX1_word ⟨Nat.le_of_ble_eq_true rfl, Nat.le_of_ble_eq_true rfl⟩) [3, 4] [0, 1, 2, 5] [1] [0, 1, 2, 4, 5, 3] rfl rfl rfl rfl (by decide) rfl (fun _ => rfl) rfl 3 rfl rfl rfl rfl hl.1 rfl (Nat.le_of_ble_eq_true rfl) dX3_leaveOpcode_25 ⟨Nat.zero_le _, Nat.zero_le _⟩ (fun r3 _ H locs hw2 hP hD hS => ?_)
    have hP : va_P D vwCl (kX3 cB cI gc me ba rg wa sm v_im v_ei v_ha v_hb v_cy v_by v_ct v_wd) H := hP
    have hD : va_D A (kX3 cB cI gc me ba rg wa sm v_im v_ei v_ha v_hb v_cy v_by v_ct v_wd) := hD
    have hf := hf.trans (kE1 hw2)
    refine lv_iconst (v := 1) hx hb dX3_leaveOpcode_28 (by decide) ?_
    refine lv_iadd hx hb dX3_leaveOpcode_29 ?_
    refine kc_Vi (wr := [(gc, .inr (3, [.ref me, .ref rg, .ref sm, .int (bI v_im), .int (bI v_ei), .int (bI v_ha), .int (bI v_hb), .int v_cy])), (me, .inr (0, [.ref ba, .int v_ct])), (ba, .inl (cB, 65536, .inl v_by)), (sm, .inr (2, [.ref rg]))]) (As := [.int (5 : Int32), .int (r3 + (1 : Int32))]) (rest := []) (fun u9 => (kX3 cB cI gc me ba rg wa sm v_im v_ei v_ha v_hb v_cy v_by v_ct u9)) ⟨hx, hb, hml, hown, hws⟩ hK hP hD hS hA hT (c_X1_setWord l D cI rg wa H.size v_wd (5 : Int32) (r3 + (1 : Int32))) (cwV 2 hws (gw_V mw_137 mw_138 mw_139 mw_32 mw_140) rfl rfl rfl hdX1_setWord ⟨Nat.le_of_ble_eq_true rfl, Nat.le_of_ble_eq_true rfl⟩) [3, 4] [0, 1, 2, 5] [1] [0, 1, 2, 4, 5, 3] rfl rfl rfl rfl (by decide) rfl (fun _ => rfl) rfl 3 rfl rfl rfl rfl hl.1 rfl (Nat.le_of_ble_eq_true rfl) dX3_leaveOpcode_30 ⟨Nat.zero_le _, Nat.zero_le _⟩ (fun r6 b4 H locs hw5 hP hD hS => ?_)
    obtain ⟨z7, rfl, hw5⟩ := hw5
    have hP : va_P D vwCl (kX3 cB cI gc me ba rg wa sm v_im v_ei v_ha v_hb v_cy v_by v_ct b4) H := hP
    have hD : va_D A (kX3 cB cI gc me ba rg wa sm v_im v_ei v_ha v_hb v_cy v_by v_ct b4) := hD
    have hf := hf.trans (kE2 hw5)
    refine lv_pop hx hb dX3_leaveOpcode_33 rfl ?_
    rw [← hQ]
    exact W.vret hx hb hr (fun t ht hW => ⟨⟨(v_hb, b4), rfl, hf.symm, by rw [ht]; exact hP, va_K.moved hW.alike hK, hD⟩, hS.F ht⟩) hS.2.2 dX3_leaveOpcode_34
  · have hf := hf.trans (kf_eq c1)
    refine lv_aload_n hx hb dX3_leaveOpcode_7 rfl (lv_at hl 0 rfl) ?_
    refine lv_iconst (v := 0) hx hb dX3_leaveOpcode_8 (by decide) ?_
    refine va_put (D := D) (ci := 3) (v := .int (bI false)) (ty := .boolean) (C := RX3) (T := TX3) (N := 8) hx hb hws inlX3 tyX3 tyX3_ok nmX3 hown hK hP hD hS 0 rfl rfl 6 (by decide) (hws _ mw_168) (fun _ h9 => h9) rfl (tyX3_ok 6 (by decide)) (bI_nar _) (bI_fit _) (Nat.le_of_ble_eq_true rfl) dX3_leaveOpcode_9 (fun H locs hP hD hS => ?_)
    have hP : va_P D vwCl (kX3 cB cI gc me ba rg wa sm v_im v_ei v_ha false v_cy v_by v_ct v_wd) H := hP
    have hD : va_D A (kX3 cB cI gc me ba rg wa sm v_im v_ei v_ha false v_cy v_by v_ct v_wd) := hD
    refine lv_goto (tgt := 34) hx hb dX3_leaveOpcode_12 (by decide) ?_
    rw [← hQ]
    exact W.vret hx hb hr (fun t ht hW => ⟨⟨(false, v_wd), rfl, hf.symm, by rw [ht]; exact hP, va_K.moved hW.alike hK, hD⟩, hS.F ht⟩) hS.2.2 dX3_leaveOpcode_34
def fX3_halt (v_im : Bool) (v_ei : Bool) (v_ha : Bool) (v_hb : Bool) (v_by : Nat → Int32) (v_wd : Nat → Int32)  : Bool × Bool × (Nat → Int32) := (kIf (kEq (bI v_im) (0 : Int32)) (kU1 (fX0_pending v_by) (fun (r3 : Int32) => (kIf (kEq r3 (0 : Int32)) (true, v_hb, v_wd) (kIf (kEq (bI v_ei) (0 : Int32)) (v_ha, true, v_wd) (kU1 (fX1_word v_wd (5 : Int32)) (fun (r7 : Int32) => (kU2 (fX1_setWord v_wd (5 : Int32) (r7 - (1 : Int32))) (fun (z11 : Bool) (b8 : Nat → Int32) => (v_ha, v_hb, b8))))))))) (true, v_hb, v_wd))
def rmX3_halt : Room := { frames := 2, cells := 0, slots := 0, locals := 41 }
def wwX3_halt : List Cond := Cond.code yX3_halt cX3_halt 1 none :: wsL_law
theorem hdX3_halt : yX3_halt.cls = RX3 ∧ yX3_halt.cls ≠ "java/lang/invoke/MethodHandle" ∧ yX3_halt.cls ≠ "java/lang/invoke/VarHandle" ∧ (parseMethodDescriptor yX3_halt.desc).map (fun d => d.parameters.length) = some 0 := by decide +kernel
set_option maxHeartbeats 4000000 in
set_option maxRecDepth 100000 in
theorem c_X3_halt (l : Launch) (D : va_G) (cB : ClassId) (cI : ClassId) (gc me ba rg wa sm sz : Nat) (v_im : Bool) (v_ei : Bool) (v_ha : Bool) (v_hb : Bool) (v_cy : Int32) (v_by : Nat → Int32) (v_ct : Int32) (v_wd : Nat → Int32)   : Met l yX3_halt wwX3_halt rmX3_halt (va_Pc [.ref gc] (kp D (kX3 cB cI gc me ba rg wa sm v_im v_ei v_ha v_hb v_cy v_by v_ct v_wd) [(cB, .byte), (cI, .int)] sz)) (va_Qv (fun (u9 : Bool × Bool × (Nat → Int32)) => u9 = fX3_halt v_im v_ei v_ha v_hb v_by v_wd) (fun u9 t => kq D (kX3 cB cI gc me ba rg wa sm v_im v_ei (u9.1) (u9.2.1) v_cy v_by v_ct (u9.2.2)) [(cB, .byte), (cI, .int)] (va_A (kX3 cB cI gc me ba rg wa sm v_im v_ei v_ha v_hb v_cy v_by v_ct v_wd) sz) t) (va_A (kX3 cB cI gc me ba rg wa sm v_im v_ei v_ha v_hb v_cy v_by v_ct v_wd) sz)) 0 0 (va_A (kX3 cB cI gc me ba rg wa sm v_im v_ei v_ha v_hb v_cy v_by v_ct v_wd) sz) := by
  refine Met.ofW (cc := cX3_halt) (maxL := 1) (ret := none) (by decide) rfl ?_
  intro p e s m args below meth c s₁ B hml hv
  obtain ⟨rfl, hsz, hP, hK, hD0, hT⟩ := hv
  have hx := B.exec
  have hb := B.bytes
  have hr := B.returns
  have hts := atoms_spec (ws := wwX3_halt) B.pre
  have hws : ∀ w ∈ wsL_law, w.before _ s = true := fun w h => hts w (List.mem_cons_of_mem _ h)
  have hown : s.vm.findClass RX3 = some m.cls := findClass_of_methodNamed B.named
  have hlocks := B.notSynchronized
  subst hsz
  have hD := hD0.self (sz := s.heap.size)
  generalize hAe : va_A (kX3 cB cI gc me ba rg wa sm v_im v_ei v_ha v_hb v_cy v_by v_ct v_wd) s.heap.size = A at hD hT ⊢
  have hA : ∀ q : Nat, s.heap.size ≤ q → A q := fun q h => by rw [← hAe]; exact Or.inr h
  have hS : va_S A s.heap s.heap [] := va_S.rf
  have hl := lv_entry ([.ref gc]) (n := 1) (Nat.le_of_ble_eq_true rfl)
  rw [lg_entry_eq]
  generalize (lg_sl ([.ref gc]) ++ List.replicate (1 - (lg_sl ([.ref gc])).length) Slot.unset).toArray = ls at hl ⊢
  have hl : lv_has ls 1 [(0, .ref gc)] := hl
  generalize hQ : MQ _ _ _ _ _ _ _ = Q
  obtain ⟨H, hHe⟩ : ∃ H : Heap, H = s.heap := ⟨_, rfl⟩
  obtain ⟨locs, hle⟩ : ∃ L : List Loc, L = [] := ⟨_, rfl⟩
  have hP : va_P D vwCl (kX3 cB cI gc me ba rg wa sm v_im v_ei v_ha v_hb v_cy v_by v_ct v_wd) H := by rw [hHe]; exact hP
  have hS : va_S A s.heap H locs := by rw [hHe, hle]; exact hS
  refine kw_start hHe.symm hle.symm ?_
  have hf : fX3_halt v_im v_ei v_ha v_hb v_by v_wd = fX3_halt v_im v_ei v_ha v_hb v_by v_wd := rfl
  refine lv_aload_n hx hb dX3_halt_0 rfl (lv_at hl 0 rfl) ?_
  refine va_get (D := D) (ci := 3) (v := .int (bI v_im)) (C := RX3) (T := TX3) (N := 8) hx hb hws inlX3 hown hK hP 0 rfl rfl 3 (by decide) (hws _ mw_105) (fun _ h9 => h9) rfl dX3_halt_1 ?_
  refine lv_if_ne (tgt := 17) hx hb dX3_halt_4 (by decide) (fun c1 => ?_) (fun c1 => ?_)
  · have hf := hf.trans (kf_eq c1)
    refine lv_aload_n hx hb dX3_halt_17 rfl (lv_at hl 0 rfl) ?_
    refine lv_iconst (v := 1) hx hb dX3_halt_18 (by decide) ?_
    refine va_put (D := D) (ci := 3) (v := .int (bI true)) (ty := .boolean) (C := RX3) (T := TX3) (N := 8) hx hb hws inlX3 tyX3 tyX3_ok nmX3 hown hK hP hD hS 0 rfl rfl 5 (by decide) (hws _ mw_106) (fun _ h9 => h9) rfl (tyX3_ok 5 (by decide)) (bI_nar _) (bI_fit _) (Nat.le_of_ble_eq_true rfl) dX3_halt_19 (fun H locs hP hD hS => ?_)
    have hP : va_P D vwCl (kX3 cB cI gc me ba rg wa sm v_im v_ei true v_hb v_cy v_by v_ct v_wd) H := hP
    have hD : va_D A (kX3 cB cI gc me ba rg wa sm v_im v_ei true v_hb v_cy v_by v_ct v_wd) := hD
    refine lv_goto (tgt := 59) hx hb dX3_halt_22 (by decide) ?_
    rw [← hQ]
    exact W.vret hx hb hr (fun t ht hW => ⟨⟨(true, v_hb, v_wd), rfl, hf.symm, by rw [ht]; exact hP, va_K.moved hW.alike hK, hD⟩, hS.F ht⟩) hS.2.2 dX3_halt_59
  · have hf := hf.trans (kt_eq c1)
    refine lv_aload_n hx hb dX3_halt_7 rfl (lv_at hl 0 rfl) ?_
    refine va_get (D := D) (ci := 3) (v := .ref me) (C := RX3) (T := TX3) (N := 8) hx hb hws inlX3 hown hK hP 0 rfl rfl 0 (by decide) (hws _ mw_15) (fun _ h9 => h9) rfl dX3_halt_8 ?_
    refine kc_Vi (wr := [(gc, .inr (3, [.ref me, .ref rg, .ref sm, .int (bI v_im), .int (bI v_ei), .int (bI v_ha), .int (bI v_hb), .int v_cy])), (rg, .inr (1, [.ref wa])), (wa, .inl (cI, 6, .inl v_wd)), (sm, .inr (2, [.ref rg]))]) (As := []) (rest := []) (fun _ => (kX3 cB cI gc me ba rg wa sm v_im v_ei v_ha v_hb v_cy v_by v_ct v_wd)) ⟨hx, hb, hml, hown, hws⟩ hK hP hD hS hA hT (c_X0_pending l D cB me ba H.size v_by v_ct ) (cwV 0 hws (gw_V mw_109 mw_110 mw_111 mw_14 mw_112) rfl rfl rfl hdX0_pending ⟨Nat.le_of_ble_eq_true rfl, Nat.le_of_ble_eq_true rfl⟩) [1, 2] [0, 3, 4, 5] [0] [0, 4, 5, 1, 2, 3] rfl rfl rfl rfl (by decide) rfl (fun _ => rfl) rfl 1 rfl rfl rfl rfl hl.1 rfl (Nat.le_of_ble_eq_true rfl) dX3_halt_11 ⟨Nat.zero_le _, Nat.zero_le _⟩ (fun r3 _ H locs hw2 hP hD hS => ?_)
    have hP : va_P D vwCl (kX3 cB cI gc me ba rg wa sm v_im v_ei v_ha v_hb v_cy v_by v_ct v_wd) H := hP
    have hD : va_D A (kX3 cB cI gc me ba rg wa sm v_im v_ei v_ha v_hb v_cy v_by v_ct v_wd) := hD
    have hf := hf.trans (kE1 hw2)
    refine lv_if_ne (tgt := 25) hx hb dX3_halt_14 (by decide) (fun c4 => ?_) (fun c4 => ?_)
    · have hf := hf.trans (kf_eq c4)
      refine lv_aload_n hx hb dX3_halt_25 rfl (lv_at hl 0 rfl) ?_
      refine va_get (D := D) (ci := 3) (v := .int (bI v_ei)) (C := RX3) (T := TX3) (N := 8) hx hb hws inlX3 hown hK hP 0 rfl rfl 4 (by decide) (hws _ mw_108) (fun _ h9 => h9) rfl dX3_halt_26 ?_
      refine lv_if_eq (tgt := 54) hx hb dX3_halt_29 (by decide) (fun c5 => ?_) (fun c5 => ?_)
      · have hf := hf.trans (kt_eq c5)
        refine lv_aload_n hx hb dX3_halt_54 rfl (lv_at hl 0 rfl) ?_
        refine lv_iconst (v := 1) hx hb dX3_halt_55 (by decide) ?_
        refine va_put (D := D) (ci := 3) (v := .int (bI true)) (ty := .boolean) (C := RX3) (T := TX3) (N := 8) hx hb hws inlX3 tyX3 tyX3_ok nmX3 hown hK hP hD hS 0 rfl rfl 6 (by decide) (hws _ mw_168) (fun _ h9 => h9) rfl (tyX3_ok 6 (by decide)) (bI_nar _) (bI_fit _) (Nat.le_of_ble_eq_true rfl) dX3_halt_56 (fun H locs hP hD hS => ?_)
        have hP : va_P D vwCl (kX3 cB cI gc me ba rg wa sm v_im v_ei v_ha true v_cy v_by v_ct v_wd) H := hP
        have hD : va_D A (kX3 cB cI gc me ba rg wa sm v_im v_ei v_ha true v_cy v_by v_ct v_wd) := hD
        rw [← hQ]
        exact W.vret hx hb hr (fun t ht hW => ⟨⟨(v_ha, true, v_wd), rfl, hf.symm, by rw [ht]; exact hP, va_K.moved hW.alike hK, hD⟩, hS.F ht⟩) hS.2.2 dX3_halt_59
      · have hf := hf.trans (kf_eq c5)
        refine lv_aload_n hx hb dX3_halt_32 rfl (lv_at hl 0 rfl) ?_
        refine va_get (D := D) (ci := 3) (v := .ref rg) (C := RX3) (T := TX3) (N := 8) hx hb hws inlX3 hown hK hP 0 rfl rfl 1 (by decide) (hws _ mw_20) (fun _ h9 => h9) rfl dX3_halt_33 ?_
        refine lv_iconst (v := 5) hx hb dX3_halt_36 (by decide) ?_
        refine lv_aload_n hx hb dX3_halt_37 rfl (lv_at hl 0 rfl) ?_
        refine va_get (D := D) (ci := 3) (v := .ref rg) (C := RX3) (T := TX3) (N := 8) hx hb hws inlX3 hown hK hP 0 rfl rfl 1 (by decide) (hws _ mw_20) (fun _ h9 => h9) rfl dX3_halt_38 ?_
        refine lv_iconst (v := 5) hx hb dX3_halt_41 (by decide) ?_
        refine kc_Vi (wr := [(gc, .inr (3, [.ref me, .ref rg, .ref sm, .int (bI v_im), .int (bI v_ei), .int (bI v_ha), .int (bI v_hb), .int v_cy])), (me, .inr (0, [.ref ba, .int v_ct])), (ba, .inl (cB, 65536, .inl v_by)), (sm, .inr (2, [.ref rg]))]) (As := [.int (5 : Int32)]) (rest := [.int (5 : Int32), .ref rg]) (fun _ => (kX3 cB cI gc me ba rg wa sm v_im v_ei v_ha v_hb v_cy v_by v_ct v_wd)) ⟨hx, hb, hml, hown, hws⟩ hK hP hD hS hA hT (c_X1_word l D cI rg wa H.size v_wd (5 : Int32)) (cwV 1 hws (gw_V mw_123 mw_124 mw_125 mw_32 mw_126) rfl rfl rfl hdX1_word ⟨Nat.le_of_ble_eq_true rfl, Nat.le_of_ble_eq_true rfl⟩) [3, 4] [0, 1, 2, 5] [1] [0, 1, 2, 4, 5, 3] rfl rfl rfl rfl (by decide) rfl (fun _ => rfl) rfl 3 rfl rfl rfl rfl hl.1 rfl (Nat.le_of_ble_eq_true rfl) dX3_halt_42 ⟨Nat.zero_le _, Nat.zero_le _⟩ (fun r7 _ H locs hw6 hP hD hS => ?_)
        have hP : va_P D vwCl (kX3 cB cI gc me ba rg wa sm v_im v_ei v_ha v_hb v_cy v_by v_ct v_wd) H := hP
        have hD : va_D A (kX3 cB cI gc me ba rg wa sm v_im v_ei v_ha v_hb v_cy v_by v_ct v_wd) := hD
        have hf := hf.trans (kE1 hw6)
        refine lv_iconst (v := 1) hx hb dX3_halt_45 (by decide) ?_
        refine lv_isub hx hb dX3_halt_46 ?_
        refine kc_Vi (wr := [(gc, .inr (3, [.ref me, .ref rg, .ref sm, .int (bI v_im), .int (bI v_ei), .int (bI v_ha), .int (bI v_hb), .int v_cy])), (me, .inr (0, [.ref ba, .int v_ct])), (ba, .inl (cB, 65536, .inl v_by)), (sm, .inr (2, [.ref rg]))]) (As := [.int (5 : Int32), .int (r7 - (1 : Int32))]) (rest := []) (fun u9 => (kX3 cB cI gc me ba rg wa sm v_im v_ei v_ha v_hb v_cy v_by v_ct u9)) ⟨hx, hb, hml, hown, hws⟩ hK hP hD hS hA hT (c_X1_setWord l D cI rg wa H.size v_wd (5 : Int32) (r7 - (1 : Int32))) (cwV 2 hws (gw_V mw_137 mw_138 mw_139 mw_32 mw_140) rfl rfl rfl hdX1_setWord ⟨Nat.le_of_ble_eq_true rfl, Nat.le_of_ble_eq_true rfl⟩) [3, 4] [0, 1, 2, 5] [1] [0, 1, 2, 4, 5, 3] rfl rfl rfl rfl (by decide) rfl (fun _ => rfl) rfl 3 rfl rfl rfl rfl hl.1 rfl (Nat.le_of_ble_eq_true rfl) dX3_halt_47 ⟨Nat.zero_le _, Nat.zero_le _⟩ (fun r10 b8 H locs hw9 hP hD hS => ?_)
        obtain ⟨z11, rfl, hw9⟩ := hw9
        have hP : va_P D vwCl (kX3 cB cI gc me ba rg wa sm v_im v_ei v_ha v_hb v_cy v_by v_ct b8) H := hP
        have hD : va_D A (kX3 cB cI gc me ba rg wa sm v_im v_ei v_ha v_hb v_cy v_by v_ct b8) := hD
        have hf := hf.trans (kE2 hw9)
        refine lv_pop hx hb dX3_halt_50 rfl ?_
        refine lv_goto (tgt := 59) hx hb dX3_halt_51 (by decide) ?_
        rw [← hQ]
        exact W.vret hx hb hr (fun t ht hW => ⟨⟨(v_ha, v_hb, b8), rfl, hf.symm, by rw [ht]; exact hP, va_K.moved hW.alike hK, hD⟩, hS.F ht⟩) hS.2.2 dX3_halt_59
    · have hf := hf.trans (kt_eq c4)
      refine lv_aload_n hx hb dX3_halt_17 rfl (lv_at hl 0 rfl) ?_
      refine lv_iconst (v := 1) hx hb dX3_halt_18 (by decide) ?_
      refine va_put (D := D) (ci := 3) (v := .int (bI true)) (ty := .boolean) (C := RX3) (T := TX3) (N := 8) hx hb hws inlX3 tyX3 tyX3_ok nmX3 hown hK hP hD hS 0 rfl rfl 5 (by decide) (hws _ mw_106) (fun _ h9 => h9) rfl (tyX3_ok 5 (by decide)) (bI_nar _) (bI_fit _) (Nat.le_of_ble_eq_true rfl) dX3_halt_19 (fun H locs hP hD hS => ?_)
      have hP : va_P D vwCl (kX3 cB cI gc me ba rg wa sm v_im v_ei true v_hb v_cy v_by v_ct v_wd) H := hP
      have hD : va_D A (kX3 cB cI gc me ba rg wa sm v_im v_ei true v_hb v_cy v_by v_ct v_wd) := hD
      refine lv_goto (tgt := 59) hx hb dX3_halt_22 (by decide) ?_
      rw [← hQ]
      exact W.vret hx hb hr (fun t ht hW => ⟨⟨(true, v_hb, v_wd), rfl, hf.symm, by rw [ht]; exact hP, va_K.moved hW.alike hK, hD⟩, hS.F ht⟩) hS.2.2 dX3_halt_59
def fX3_fetch (v_by : Nat → Int32) (v_wd : Nat → Int32)  : Int32 × (Nat → Int32) := (kU1 (fX1_word v_wd (5 : Int32)) (fun (r2 : Int32) => (kU2 (fX1_setWord v_wd (5 : Int32) (r2 + (1 : Int32))) (fun (z6 : Bool) (b3 : Nat → Int32) => (kU1 (fX0_at v_by r2) (fun (r8 : Int32) => (r8, b3)))))))
def rmX3_fetch : Room := { frames := 1, cells := 0, slots := 0, locals := 22 }
def wwX3_fetch : List Cond := Cond.code yX3_fetch cX3_fetch 2 (some .int) :: wsL_law
theorem hdX3_fetch : yX3_fetch.cls = RX3 ∧ yX3_fetch.cls ≠ "java/lang/invoke/MethodHandle" ∧ yX3_fetch.cls ≠ "java/lang/invoke/VarHandle" ∧ (parseMethodDescriptor yX3_fetch.desc).map (fun d => d.parameters.length) = some 0 := by decide +kernel
set_option maxHeartbeats 4000000 in
set_option maxRecDepth 100000 in
theorem c_X3_fetch (l : Launch) (D : va_G) (cB : ClassId) (cI : ClassId) (gc me ba rg wa sm sz : Nat) (v_im : Bool) (v_ei : Bool) (v_ha : Bool) (v_hb : Bool) (v_cy : Int32) (v_by : Nat → Int32) (v_ct : Int32) (v_wd : Nat → Int32)   : Met l yX3_fetch wwX3_fetch rmX3_fetch (va_Pc [.ref gc] (kp D (kX3 cB cI gc me ba rg wa sm v_im v_ei v_ha v_hb v_cy v_by v_ct v_wd) [(cB, .byte), (cI, .int)] sz)) (va_Qi (fun (r : Int32) (u9 : (Nat → Int32)) => (r, u9) = fX3_fetch v_by v_wd) (fun u9 t => kq D (kX3 cB cI gc me ba rg wa sm v_im v_ei v_ha v_hb v_cy v_by v_ct u9) [(cB, .byte), (cI, .int)] (va_A (kX3 cB cI gc me ba rg wa sm v_im v_ei v_ha v_hb v_cy v_by v_ct v_wd) sz) t) (va_A (kX3 cB cI gc me ba rg wa sm v_im v_ei v_ha v_hb v_cy v_by v_ct v_wd) sz)) 0 0 (va_A (kX3 cB cI gc me ba rg wa sm v_im v_ei v_ha v_hb v_cy v_by v_ct v_wd) sz) := by
  refine Met.ofW (cc := cX3_fetch) (maxL := 2) (ret := (some .int)) (by decide) rfl ?_
  intro p e s m args below meth c s₁ B hml hv
  obtain ⟨rfl, hsz, hP, hK, hD0, hT⟩ := hv
  have hx := B.exec
  have hb := B.bytes
  have hr := B.returns
  have hts := atoms_spec (ws := wwX3_fetch) B.pre
  have hws : ∀ w ∈ wsL_law, w.before _ s = true := fun w h => hts w (List.mem_cons_of_mem _ h)
  have hown : s.vm.findClass RX3 = some m.cls := findClass_of_methodNamed B.named
  have hlocks := B.notSynchronized
  subst hsz
  have hD := hD0.self (sz := s.heap.size)
  generalize hAe : va_A (kX3 cB cI gc me ba rg wa sm v_im v_ei v_ha v_hb v_cy v_by v_ct v_wd) s.heap.size = A at hD hT ⊢
  have hA : ∀ q : Nat, s.heap.size ≤ q → A q := fun q h => by rw [← hAe]; exact Or.inr h
  have hS : va_S A s.heap s.heap [] := va_S.rf
  have hl := lv_entry ([.ref gc]) (n := 2) (Nat.le_of_ble_eq_true rfl)
  rw [lg_entry_eq]
  generalize (lg_sl ([.ref gc]) ++ List.replicate (2 - (lg_sl ([.ref gc])).length) Slot.unset).toArray = ls at hl ⊢
  have hl : lv_has ls 2 [(0, .ref gc)] := hl
  generalize hQ : MQ _ _ _ _ _ _ _ = Q
  obtain ⟨H, hHe⟩ : ∃ H : Heap, H = s.heap := ⟨_, rfl⟩
  obtain ⟨locs, hle⟩ : ∃ L : List Loc, L = [] := ⟨_, rfl⟩
  have hP : va_P D vwCl (kX3 cB cI gc me ba rg wa sm v_im v_ei v_ha v_hb v_cy v_by v_ct v_wd) H := by rw [hHe]; exact hP
  have hS : va_S A s.heap H locs := by rw [hHe, hle]; exact hS
  refine kw_start hHe.symm hle.symm ?_
  have hf : fX3_fetch v_by v_wd = fX3_fetch v_by v_wd := rfl
  refine lv_aload_n hx hb dX3_fetch_0 rfl (lv_at hl 0 rfl) ?_
  refine va_get (D := D) (ci := 3) (v := .ref rg) (C := RX3) (T := TX3) (N := 8) hx hb hws inlX3 hown hK hP 0 rfl rfl 1 (by decide) (hws _ mw_20) (fun _ h9 => h9) rfl dX3_fetch_1 ?_
  refine lv_iconst (v := 5) hx hb dX3_fetch_4 (by decide) ?_
  refine kc_Vi (wr := [(gc, .inr (3, [.ref me, .ref rg, .ref sm, .int (bI v_im), .int (bI v_ei), .int (bI v_ha), .int (bI v_hb), .int v_cy])), (me, .inr (0, [.ref ba, .int v_ct])), (ba, .inl (cB, 65536, .inl v_by)), (sm, .inr (2, [.ref rg]))]) (As := [.int (5 : Int32)]) (rest := []) (fun _ => (kX3 cB cI gc me ba rg wa sm v_im v_ei v_ha v_hb v_cy v_by v_ct v_wd)) ⟨hx, hb, hml, hown, hws⟩ hK hP hD hS hA hT (c_X1_word l D cI rg wa H.size v_wd (5 : Int32)) (cwV 1 hws (gw_V mw_123 mw_124 mw_125 mw_32 mw_126) rfl rfl rfl hdX1_word ⟨Nat.le_of_ble_eq_true rfl, Nat.le_of_ble_eq_true rfl⟩) [3, 4] [0, 1, 2, 5] [1] [0, 1, 2, 4, 5, 3] rfl rfl rfl rfl (by decide) rfl (fun _ => rfl) rfl 3 rfl rfl rfl rfl hl.1 rfl (Nat.le_of_ble_eq_true rfl) dX3_fetch_5 ⟨Nat.zero_le _, Nat.zero_le _⟩ (fun r2 _ H locs hw1 hP hD hS => ?_)
  have hP : va_P D vwCl (kX3 cB cI gc me ba rg wa sm v_im v_ei v_ha v_hb v_cy v_by v_ct v_wd) H := hP
  have hD : va_D A (kX3 cB cI gc me ba rg wa sm v_im v_ei v_ha v_hb v_cy v_by v_ct v_wd) := hD
  have hf := hf.trans (kE1 hw1)
  refine lv_istore_n (lv' := [(1, .int r2), (0, .ref gc)]) hx hb dX3_fetch_8 rfl hl (by decide) rfl (fun ls hl => ?_)
  refine lv_aload_n hx hb dX3_fetch_9 rfl (lv_at hl 1 rfl) ?_
  refine va_get (D := D) (ci := 3) (v := .ref rg) (C := RX3) (T := TX3) (N := 8) hx hb hws inlX3 hown hK hP 0 rfl rfl 1 (by decide) (hws _ mw_20) (fun _ h9 => h9) rfl dX3_fetch_10 ?_
  refine lv_iconst (v := 5) hx hb dX3_fetch_13 (by decide) ?_
  refine lv_iload_n hx hb dX3_fetch_14 rfl (lv_at hl 0 rfl) ?_
  refine lv_iconst (v := 1) hx hb dX3_fetch_15 (by decide) ?_
  refine lv_iadd hx hb dX3_fetch_16 ?_
  refine kc_Vi (wr := [(gc, .inr (3, [.ref me, .ref rg, .ref sm, .int (bI v_im), .int (bI v_ei), .int (bI v_ha), .int (bI v_hb), .int v_cy])), (me, .inr (0, [.ref ba, .int v_ct])), (ba, .inl (cB, 65536, .inl v_by)), (sm, .inr (2, [.ref rg]))]) (As := [.int (5 : Int32), .int (r2 + (1 : Int32))]) (rest := []) (fun u9 => (kX3 cB cI gc me ba rg wa sm v_im v_ei v_ha v_hb v_cy v_by v_ct u9)) ⟨hx, hb, hml, hown, hws⟩ hK hP hD hS hA hT (c_X1_setWord l D cI rg wa H.size v_wd (5 : Int32) (r2 + (1 : Int32))) (cwV 2 hws (gw_V mw_137 mw_138 mw_139 mw_32 mw_140) rfl rfl rfl hdX1_setWord ⟨Nat.le_of_ble_eq_true rfl, Nat.le_of_ble_eq_true rfl⟩) [3, 4] [0, 1, 2, 5] [1] [0, 1, 2, 4, 5, 3] rfl rfl rfl rfl (by decide) rfl (fun _ => rfl) rfl 3 rfl rfl rfl rfl hl.1 rfl (Nat.le_of_ble_eq_true rfl) dX3_fetch_17 ⟨Nat.zero_le _, Nat.zero_le _⟩ (fun r5 b3 H locs hw4 hP hD hS => ?_)
  obtain ⟨z6, rfl, hw4⟩ := hw4
  have hP : va_P D vwCl (kX3 cB cI gc me ba rg wa sm v_im v_ei v_ha v_hb v_cy v_by v_ct b3) H := hP
  have hD : va_D A (kX3 cB cI gc me ba rg wa sm v_im v_ei v_ha v_hb v_cy v_by v_ct b3) := hD
  have hf := hf.trans (kE2 hw4)
  refine lv_pop hx hb dX3_fetch_20 rfl ?_
  refine lv_aload_n hx hb dX3_fetch_21 rfl (lv_at hl 1 rfl) ?_
  refine va_get (D := D) (ci := 3) (v := .ref me) (C := RX3) (T := TX3) (N := 8) hx hb hws inlX3 hown hK hP 0 rfl rfl 0 (by decide) (hws _ mw_15) (fun _ h9 => h9) rfl dX3_fetch_22 ?_
  refine lv_iload_n hx hb dX3_fetch_25 rfl (lv_at hl 0 rfl) ?_
  refine kc_Vi (wr := [(gc, .inr (3, [.ref me, .ref rg, .ref sm, .int (bI v_im), .int (bI v_ei), .int (bI v_ha), .int (bI v_hb), .int v_cy])), (rg, .inr (1, [.ref wa])), (wa, .inl (cI, 6, .inl b3)), (sm, .inr (2, [.ref rg]))]) (As := [.int r2]) (rest := []) (fun _ => (kX3 cB cI gc me ba rg wa sm v_im v_ei v_ha v_hb v_cy v_by v_ct b3)) ⟨hx, hb, hml, hown, hws⟩ hK hP hD hS hA hT (c_X0_at l D cB me ba H.size v_by v_ct r2) (cwV 1 hws (gw_V mw_85 mw_86 mw_87 mw_14 mw_88) rfl rfl rfl hdX0_at ⟨Nat.le_of_ble_eq_true rfl, Nat.le_of_ble_eq_true rfl⟩) [1, 2] [0, 3, 4, 5] [0] [0, 4, 5, 1, 2, 3] rfl rfl rfl rfl (by decide) rfl (fun _ => rfl) rfl 1 rfl rfl rfl rfl hl.1 rfl (Nat.le_of_ble_eq_true rfl) dX3_fetch_26 ⟨Nat.zero_le _, Nat.zero_le _⟩ (fun r8 _ H locs hw7 hP hD hS => ?_)
  have hP : va_P D vwCl (kX3 cB cI gc me ba rg wa sm v_im v_ei v_ha v_hb v_cy v_by v_ct b3) H := hP
  have hD : va_D A (kX3 cB cI gc me ba rg wa sm v_im v_ei v_ha v_hb v_cy v_by v_ct b3) := hD
  have hf := hf.trans (kE1 hw7)
  rw [← hQ]
  exact W.iret (v := r8) hx hb hr (fun t ht hW => ⟨⟨r8, b3, rfl, hf.symm, by rw [ht]; exact hP, va_K.moved hW.alike hK, hD⟩, hS.F ht⟩) hS.2.2 dX3_fetch_29
def fX3_operand (v_by : Nat → Int32) (v_wd : Nat → Int32) (a1 : Int32) : Int32 := (kIf (kEq a1 (6 : Int32)) (kU1 (fX1_word v_wd (3 : Int32)) (fun (r5 : Int32) => (kU1 (fX0_at v_by r5) (fun (r7 : Int32) => r7)))) (kU1 (fX1_half v_wd a1) (fun (r3 : Int32) => r3)))
def rmX3_operand : Room := { frames := 2, cells := 0, slots := 0, locals := 42 }
def wwX3_operand : List Cond := Cond.code yX3_operand cX3_operand 2 (some .int) :: wsL_law
theorem hdX3_operand : yX3_operand.cls = RX3 ∧ yX3_operand.cls ≠ "java/lang/invoke/MethodHandle" ∧ yX3_operand.cls ≠ "java/lang/invoke/VarHandle" ∧ (parseMethodDescriptor yX3_operand.desc).map (fun d => d.parameters.length) = some 1 := by decide +kernel
set_option maxHeartbeats 4000000 in
set_option maxRecDepth 100000 in
theorem c_X3_operand (l : Launch) (D : va_G) (cB : ClassId) (cI : ClassId) (gc me ba rg wa sm sz : Nat) (v_im : Bool) (v_ei : Bool) (v_ha : Bool) (v_hb : Bool) (v_cy : Int32) (v_by : Nat → Int32) (v_ct : Int32) (v_wd : Nat → Int32) (a1 : Int32)  : Met l yX3_operand wwX3_operand rmX3_operand (va_Pc [.ref gc, .int a1] (kp D (kX3 cB cI gc me ba rg wa sm v_im v_ei v_ha v_hb v_cy v_by v_ct v_wd) [(cB, .byte), (cI, .int)] sz)) (va_Qi (fun (r : Int32) (_ : Unit) => r = fX3_operand v_by v_wd a1) (fun _ t => kq D (kX3 cB cI gc me ba rg wa sm v_im v_ei v_ha v_hb v_cy v_by v_ct v_wd) [(cB, .byte), (cI, .int)] (va_A (kX3 cB cI gc me ba rg wa sm v_im v_ei v_ha v_hb v_cy v_by v_ct v_wd) sz) t) (va_A (kX3 cB cI gc me ba rg wa sm v_im v_ei v_ha v_hb v_cy v_by v_ct v_wd) sz)) 0 0 (va_A (kX3 cB cI gc me ba rg wa sm v_im v_ei v_ha v_hb v_cy v_by v_ct v_wd) sz) := by
  refine Met.ofW (cc := cX3_operand) (maxL := 2) (ret := (some .int)) (by decide) rfl ?_
  intro p e s m args below meth c s₁ B hml hv
  obtain ⟨rfl, hsz, hP, hK, hD0, hT⟩ := hv
  have hx := B.exec
  have hb := B.bytes
  have hr := B.returns
  have hts := atoms_spec (ws := wwX3_operand) B.pre
  have hws : ∀ w ∈ wsL_law, w.before _ s = true := fun w h => hts w (List.mem_cons_of_mem _ h)
  have hown : s.vm.findClass RX3 = some m.cls := findClass_of_methodNamed B.named
  have hlocks := B.notSynchronized
  subst hsz
  have hD := hD0.self (sz := s.heap.size)
  generalize hAe : va_A (kX3 cB cI gc me ba rg wa sm v_im v_ei v_ha v_hb v_cy v_by v_ct v_wd) s.heap.size = A at hD hT ⊢
  have hA : ∀ q : Nat, s.heap.size ≤ q → A q := fun q h => by rw [← hAe]; exact Or.inr h
  have hS : va_S A s.heap s.heap [] := va_S.rf
  have hl := lv_entry ([.ref gc, .int a1]) (n := 2) (Nat.le_of_ble_eq_true rfl)
  rw [lg_entry_eq]
  generalize (lg_sl ([.ref gc, .int a1]) ++ List.replicate (2 - (lg_sl ([.ref gc, .int a1])).length) Slot.unset).toArray = ls at hl ⊢
  have hl : lv_has ls 2 [(0, .ref gc), (1, .int a1)] := hl
  generalize hQ : MQ _ _ _ _ _ _ _ = Q
  obtain ⟨H, hHe⟩ : ∃ H : Heap, H = s.heap := ⟨_, rfl⟩
  obtain ⟨locs, hle⟩ : ∃ L : List Loc, L = [] := ⟨_, rfl⟩
  have hP : va_P D vwCl (kX3 cB cI gc me ba rg wa sm v_im v_ei v_ha v_hb v_cy v_by v_ct v_wd) H := by rw [hHe]; exact hP
  have hS : va_S A s.heap H locs := by rw [hHe, hle]; exact hS
  refine kw_start hHe.symm hle.symm ?_
  have hf : fX3_operand v_by v_wd a1 = fX3_operand v_by v_wd a1 := rfl
  refine lv_iload_n hx hb dX3_operand_0 rfl (lv_at hl 1 rfl) ?_
  refine lv_bipush (v := 6) hx hb dX3_operand_1 (by decide) ?_
  refine lv_icmp_ne (tgt := 24) hx hb dX3_operand_3 (by decide) (fun c1 => ?_) (fun c1 => ?_)
  · have hf := hf.trans (kf_eq c1)
    refine lv_aload_n hx hb dX3_operand_24 rfl (lv_at hl 0 rfl) ?_
    refine va_get (D := D) (ci := 3) (v := .ref rg) (C := RX3) (T := TX3) (N := 8) hx hb hws inlX3 hown hK hP 0 rfl rfl 1 (by decide) (hws _ mw_20) (fun _ h9 => h9) rfl dX3_operand_25 ?_
    refine lv_iload_n hx hb dX3_operand_28 rfl (lv_at hl 1 rfl) ?_
    refine kc_Vi (wr := [(gc, .inr (3, [.ref me, .ref rg, .ref sm, .int (bI v_im), .int (bI v_ei), .int (bI v_ha), .int (bI v_hb), .int v_cy])), (me, .inr (0, [.ref ba, .int v_ct])), (ba, .inl (cB, 65536, .inl v_by)), (sm, .inr (2, [.ref rg]))]) (As := [.int a1]) (rest := []) (fun _ => (kX3 cB cI gc me ba rg wa sm v_im v_ei v_ha v_hb v_cy v_by v_ct v_wd)) ⟨hx, hb, hml, hown, hws⟩ hK hP hD hS hA hT (c_X1_half l D cI rg wa H.size v_wd a1) (cwV 1 hws (gw_V mw_189 mw_190 mw_191 mw_32 mw_192) rfl rfl rfl hdX1_half ⟨Nat.le_of_ble_eq_true rfl, Nat.le_of_ble_eq_true rfl⟩) [3, 4] [0, 1, 2, 5] [1] [0, 1, 2, 4, 5, 3] rfl rfl rfl rfl (by decide) rfl (fun _ => rfl) rfl 3 rfl rfl rfl rfl hl.1 rfl (Nat.le_of_ble_eq_true rfl) dX3_operand_29 ⟨Nat.zero_le _, Nat.zero_le _⟩ (fun r3 _ H locs hw2 hP hD hS => ?_)
    have hP : va_P D vwCl (kX3 cB cI gc me ba rg wa sm v_im v_ei v_ha v_hb v_cy v_by v_ct v_wd) H := hP
    have hD : va_D A (kX3 cB cI gc me ba rg wa sm v_im v_ei v_ha v_hb v_cy v_by v_ct v_wd) := hD
    have hf := hf.trans (kE1 hw2)
    rw [← hQ]
    exact W.iret (v := r3) hx hb hr (fun t ht hW => ⟨⟨r3, (), rfl, hf.symm, by rw [ht]; exact hP, va_K.moved hW.alike hK, hD⟩, hS.F ht⟩) hS.2.2 dX3_operand_32
  · have hf := hf.trans (kt_eq c1)
    refine lv_aload_n hx hb dX3_operand_6 rfl (lv_at hl 0 rfl) ?_
    refine va_get (D := D) (ci := 3) (v := .ref me) (C := RX3) (T := TX3) (N := 8) hx hb hws inlX3 hown hK hP 0 rfl rfl 0 (by decide) (hws _ mw_15) (fun _ h9 => h9) rfl dX3_operand_7 ?_
    refine lv_aload_n hx hb dX3_operand_10 rfl (lv_at hl 0 rfl) ?_
    refine va_get (D := D) (ci := 3) (v := .ref rg) (C := RX3) (T := TX3) (N := 8) hx hb hws inlX3 hown hK hP 0 rfl rfl 1 (by decide) (hws _ mw_20) (fun _ h9 => h9) rfl dX3_operand_11 ?_
    refine lv_iconst (v := 3) hx hb dX3_operand_14 (by decide) ?_
    refine kc_Vi (wr := [(gc, .inr (3, [.ref me, .ref rg, .ref sm, .int (bI v_im), .int (bI v_ei), .int (bI v_ha), .int (bI v_hb), .int v_cy])), (me, .inr (0, [.ref ba, .int v_ct])), (ba, .inl (cB, 65536, .inl v_by)), (sm, .inr (2, [.ref rg]))]) (As := [.int (3 : Int32)]) (rest := [.ref me]) (fun _ => (kX3 cB cI gc me ba rg wa sm v_im v_ei v_ha v_hb v_cy v_by v_ct v_wd)) ⟨hx, hb, hml, hown, hws⟩ hK hP hD hS hA hT (c_X1_word l D cI rg wa H.size v_wd (3 : Int32)) (cwV 1 hws (gw_V mw_123 mw_124 mw_125 mw_32 mw_126) rfl rfl rfl hdX1_word ⟨Nat.le_of_ble_eq_true rfl, Nat.le_of_ble_eq_true rfl⟩) [3, 4] [0, 1, 2, 5] [1] [0, 1, 2, 4, 5, 3] rfl rfl rfl rfl (by decide) rfl (fun _ => rfl) rfl 3 rfl rfl rfl rfl hl.1 rfl (Nat.le_of_ble_eq_true rfl) dX3_operand_15 ⟨Nat.zero_le _, Nat.zero_le _⟩ (fun r5 _ H locs hw4 hP hD hS => ?_)
    have hP : va_P D vwCl (kX3 cB cI gc me ba rg wa sm v_im v_ei v_ha v_hb v_cy v_by v_ct v_wd) H := hP
    have hD : va_D A (kX3 cB cI gc me ba rg wa sm v_im v_ei v_ha v_hb v_cy v_by v_ct v_wd) := hD
    have hf := hf.trans (kE1 hw4)
    refine kc_Vi (wr := [(gc, .inr (3, [.ref me, .ref rg, .ref sm, .int (bI v_im), .int (bI v_ei), .int (bI v_ha), .int (bI v_hb), .int v_cy])), (rg, .inr (1, [.ref wa])), (wa, .inl (cI, 6, .inl v_wd)), (sm, .inr (2, [.ref rg]))]) (As := [.int r5]) (rest := []) (fun _ => (kX3 cB cI gc me ba rg wa sm v_im v_ei v_ha v_hb v_cy v_by v_ct v_wd)) ⟨hx, hb, hml, hown, hws⟩ hK hP hD hS hA hT (c_X0_at l D cB me ba H.size v_by v_ct r5) (cwV 1 hws (gw_V mw_85 mw_86 mw_87 mw_14 mw_88) rfl rfl rfl hdX0_at ⟨Nat.le_of_ble_eq_true rfl, Nat.le_of_ble_eq_true rfl⟩) [1, 2] [0, 3, 4, 5] [0] [0, 4, 5, 1, 2, 3] rfl rfl rfl rfl (by decide) rfl (fun _ => rfl) rfl 1 rfl rfl rfl rfl hl.1 rfl (Nat.le_of_ble_eq_true rfl) dX3_operand_18 ⟨Nat.zero_le _, Nat.zero_le _⟩ (fun r7 _ H locs hw6 hP hD hS => ?_)
    have hP : va_P D vwCl (kX3 cB cI gc me ba rg wa sm v_im v_ei v_ha v_hb v_cy v_by v_ct v_wd) H := hP
    have hD : va_D A (kX3 cB cI gc me ba rg wa sm v_im v_ei v_ha v_hb v_cy v_by v_ct v_wd) := hD
    have hf := hf.trans (kE1 hw6)
    refine lv_goto (tgt := 32) hx hb dX3_operand_21 (by decide) ?_
    rw [← hQ]
    exact W.iret (v := r7) hx hb hr (fun t ht hW => ⟨⟨r7, (), rfl, hf.symm, by rw [ht]; exact hP, va_K.moved hW.alike hK, hD⟩, hS.F ht⟩) hS.2.2 dX3_operand_32
def fX3_setOperand (v_by : Nat → Int32) (v_ct : Int32) (v_wd : Nat → Int32) (a1 : Int32) (a2 : Int32) : (Nat → Int32) × Int32 × (Nat → Int32) := (kIf (kEq a1 (6 : Int32)) (kU1 (fX1_word v_wd (3 : Int32)) (fun (r5 : Int32) => (kU2 (fX0_write v_by v_ct r5 a2) (fun (b6 : Nat → Int32) (b7 : Int32) => (b6, b7, v_wd))))) (kU1 (fX1_setHalf v_wd a1 a2) (fun (b2 : Nat → Int32) => (v_by, v_ct, b2))))
def rmX3_setOperand : Room := { frames := 2, cells := 0, slots := 0, locals := 44 }
def wwX3_setOperand : List Cond := Cond.code yX3_setOperand cX3_setOperand 3 none :: wsL_law
theorem hdX3_setOperand : yX3_setOperand.cls = RX3 ∧ yX3_setOperand.cls ≠ "java/lang/invoke/MethodHandle" ∧ yX3_setOperand.cls ≠ "java/lang/invoke/VarHandle" ∧ (parseMethodDescriptor yX3_setOperand.desc).map (fun d => d.parameters.length) = some 2 := by decide +kernel
set_option maxHeartbeats 4000000 in
set_option maxRecDepth 100000 in
theorem c_X3_setOperand (l : Launch) (D : va_G) (cB : ClassId) (cI : ClassId) (gc me ba rg wa sm sz : Nat) (v_im : Bool) (v_ei : Bool) (v_ha : Bool) (v_hb : Bool) (v_cy : Int32) (v_by : Nat → Int32) (v_ct : Int32) (v_wd : Nat → Int32) (a1 : Int32) (a2 : Int32)  : Met l yX3_setOperand wwX3_setOperand rmX3_setOperand (va_Pc [.ref gc, .int a1, .int a2] (kp D (kX3 cB cI gc me ba rg wa sm v_im v_ei v_ha v_hb v_cy v_by v_ct v_wd) [(cB, .byte), (cI, .int)] sz)) (va_Qv (fun (u9 : (Nat → Int32) × Int32 × (Nat → Int32)) => u9 = fX3_setOperand v_by v_ct v_wd a1 a2) (fun u9 t => kq D (kX3 cB cI gc me ba rg wa sm v_im v_ei v_ha v_hb v_cy (u9.1) (u9.2.1) (u9.2.2)) [(cB, .byte), (cI, .int)] (va_A (kX3 cB cI gc me ba rg wa sm v_im v_ei v_ha v_hb v_cy v_by v_ct v_wd) sz) t) (va_A (kX3 cB cI gc me ba rg wa sm v_im v_ei v_ha v_hb v_cy v_by v_ct v_wd) sz)) 0 0 (va_A (kX3 cB cI gc me ba rg wa sm v_im v_ei v_ha v_hb v_cy v_by v_ct v_wd) sz) := by
  refine Met.ofW (cc := cX3_setOperand) (maxL := 3) (ret := none) (by decide) rfl ?_
  intro p e s m args below meth c s₁ B hml hv
  obtain ⟨rfl, hsz, hP, hK, hD0, hT⟩ := hv
  have hx := B.exec
  have hb := B.bytes
  have hr := B.returns
  have hts := atoms_spec (ws := wwX3_setOperand) B.pre
  have hws : ∀ w ∈ wsL_law, w.before _ s = true := fun w h => hts w (List.mem_cons_of_mem _ h)
  have hown : s.vm.findClass RX3 = some m.cls := findClass_of_methodNamed B.named
  have hlocks := B.notSynchronized
  subst hsz
  have hD := hD0.self (sz := s.heap.size)
  generalize hAe : va_A (kX3 cB cI gc me ba rg wa sm v_im v_ei v_ha v_hb v_cy v_by v_ct v_wd) s.heap.size = A at hD hT ⊢
  have hA : ∀ q : Nat, s.heap.size ≤ q → A q := fun q h => by rw [← hAe]; exact Or.inr h
  have hS : va_S A s.heap s.heap [] := va_S.rf
  have hl := lv_entry ([.ref gc, .int a1, .int a2]) (n := 3) (Nat.le_of_ble_eq_true rfl)
  rw [lg_entry_eq]
  generalize (lg_sl ([.ref gc, .int a1, .int a2]) ++ List.replicate (3 - (lg_sl ([.ref gc, .int a1, .int a2])).length) Slot.unset).toArray = ls at hl ⊢
  have hl : lv_has ls 3 [(0, .ref gc), (1, .int a1), (2, .int a2)] := hl
  generalize hQ : MQ _ _ _ _ _ _ _ = Q
  obtain ⟨H, hHe⟩ : ∃ H : Heap, H = s.heap := ⟨_, rfl⟩
  obtain ⟨locs, hle⟩ : ∃ L : List Loc, L = [] := ⟨_, rfl⟩
  have hP : va_P D vwCl (kX3 cB cI gc me ba rg wa sm v_im v_ei v_ha v_hb v_cy v_by v_ct v_wd) H := by rw [hHe]; exact hP
  have hS : va_S A s.heap H locs := by rw [hHe, hle]; exact hS
  refine kw_start hHe.symm hle.symm ?_
  have hf : fX3_setOperand v_by v_ct v_wd a1 a2 = fX3_setOperand v_by v_ct v_wd a1 a2 := rfl
  refine lv_iload_n hx hb dX3_setOperand_0 rfl (lv_at hl 1 rfl) ?_
  refine lv_bipush (v := 6) hx hb dX3_setOperand_1 (by decide) ?_
  refine lv_icmp_ne (tgt := 25) hx hb dX3_setOperand_3 (by decide) (fun c1 => ?_) (fun c1 => ?_)
  · have hf := hf.trans (kf_eq c1)
    refine lv_aload_n hx hb dX3_setOperand_25 rfl (lv_at hl 0 rfl) ?_
    refine va_get (D := D) (ci := 3) (v := .ref rg) (C := RX3) (T := TX3) (N := 8) hx hb hws inlX3 hown hK hP 0 rfl rfl 1 (by decide) (hws _ mw_20) (fun _ h9 => h9) rfl dX3_setOperand_26 ?_
    refine lv_iload_n hx hb dX3_setOperand_29 rfl (lv_at hl 1 rfl) ?_
    refine lv_iload_n hx hb dX3_setOperand_30 rfl (lv_at hl 2 rfl) ?_
    refine kc_Vv (wr := [(gc, .inr (3, [.ref me, .ref rg, .ref sm, .int (bI v_im), .int (bI v_ei), .int (bI v_ha), .int (bI v_hb), .int v_cy])), (me, .inr (0, [.ref ba, .int v_ct])), (ba, .inl (cB, 65536, .inl v_by)), (sm, .inr (2, [.ref rg]))]) (As := [.int a1, .int a2]) (rest := []) (fun u9 => (kX3 cB cI gc me ba rg wa sm v_im v_ei v_ha v_hb v_cy v_by v_ct u9)) ⟨hx, hb, hml, hown, hws⟩ hK hP hD hS hA hT (c_X1_setHalf l D cI rg wa H.size v_wd a1 a2) (cwV 2 hws (gw_V mw_219 mw_220 mw_221 mw_32 mw_222) rfl rfl rfl hdX1_setHalf ⟨Nat.le_of_ble_eq_true rfl, Nat.le_of_ble_eq_true rfl⟩) [3, 4] [0, 1, 2, 5] [1] [0, 1, 2, 4, 5, 3] rfl rfl rfl rfl (by decide) rfl (fun _ => rfl) rfl 3 rfl rfl rfl rfl hl.1 rfl (Nat.le_of_ble_eq_true rfl) dX3_setOperand_31 ⟨Nat.zero_le _, Nat.zero_le _⟩ (fun b2 H locs hw3 hP hD hS => ?_)
    have hP : va_P D vwCl (kX3 cB cI gc me ba rg wa sm v_im v_ei v_ha v_hb v_cy v_by v_ct b2) H := hP
    have hD : va_D A (kX3 cB cI gc me ba rg wa sm v_im v_ei v_ha v_hb v_cy v_by v_ct b2) := hD
    have hf := hf.trans (kE1 hw3)
    rw [← hQ]
    exact W.vret hx hb hr (fun t ht hW => ⟨⟨(v_by, v_ct, b2), rfl, hf.symm, by rw [ht]; exact hP, va_K.moved hW.alike hK, hD⟩, hS.F ht⟩) hS.2.2 dX3_setOperand_34
  · have hf := hf.trans (kt_eq c1)
    refine lv_aload_n hx hb dX3_setOperand_6 rfl (lv_at hl 0 rfl) ?_
    refine va_get (D := D) (ci := 3) (v := .ref me) (C := RX3) (T := TX3) (N := 8) hx hb hws inlX3 hown hK hP 0 rfl rfl 0 (by decide) (hws _ mw_15) (fun _ h9 => h9) rfl dX3_setOperand_7 ?_
    refine lv_aload_n hx hb dX3_setOperand_10 rfl (lv_at hl 0 rfl) ?_
    refine va_get (D := D) (ci := 3) (v := .ref rg) (C := RX3) (T := TX3) (N := 8) hx hb hws inlX3 hown hK hP 0 rfl rfl 1 (by decide) (hws _ mw_20) (fun _ h9 => h9) rfl dX3_setOperand_11 ?_
    refine lv_iconst (v := 3) hx hb dX3_setOperand_14 (by decide) ?_
    refine kc_Vi (wr := [(gc, .inr (3, [.ref me, .ref rg, .ref sm, .int (bI v_im), .int (bI v_ei), .int (bI v_ha), .int (bI v_hb), .int v_cy])), (me, .inr (0, [.ref ba, .int v_ct])), (ba, .inl (cB, 65536, .inl v_by)), (sm, .inr (2, [.ref rg]))]) (As := [.int (3 : Int32)]) (rest := [.ref me]) (fun _ => (kX3 cB cI gc me ba rg wa sm v_im v_ei v_ha v_hb v_cy v_by v_ct v_wd)) ⟨hx, hb, hml, hown, hws⟩ hK hP hD hS hA hT (c_X1_word l D cI rg wa H.size v_wd (3 : Int32)) (cwV 1 hws (gw_V mw_123 mw_124 mw_125 mw_32 mw_126) rfl rfl rfl hdX1_word ⟨Nat.le_of_ble_eq_true rfl, Nat.le_of_ble_eq_true rfl⟩) [3, 4] [0, 1, 2, 5] [1] [0, 1, 2, 4, 5, 3] rfl rfl rfl rfl (by decide) rfl (fun _ => rfl) rfl 3 rfl rfl rfl rfl hl.1 rfl (Nat.le_of_ble_eq_true rfl) dX3_setOperand_15 ⟨Nat.zero_le _, Nat.zero_le _⟩ (fun r5 _ H locs hw4 hP hD hS => ?_)
    have hP : va_P D vwCl (kX3 cB cI gc me ba rg wa sm v_im v_ei v_ha v_hb v_cy v_by v_ct v_wd) H := hP
    have hD : va_D A (kX3 cB cI gc me ba rg wa sm v_im v_ei v_ha v_hb v_cy v_by v_ct v_wd) := hD
    have hf := hf.trans (kE1 hw4)
    refine lv_iload_n hx hb dX3_setOperand_18 rfl (lv_at hl 2 rfl) ?_
    refine kc_Vv (wr := [(gc, .inr (3, [.ref me, .ref rg, .ref sm, .int (bI v_im), .int (bI v_ei), .int (bI v_ha), .int (bI v_hb), .int v_cy])), (rg, .inr (1, [.ref wa])), (wa, .inl (cI, 6, .inl v_wd)), (sm, .inr (2, [.ref rg]))]) (As := [.int r5, .int a2]) (rest := []) (fun u9 => (kX3 cB cI gc me ba rg wa sm v_im v_ei v_ha v_hb v_cy (u9.1) (u9.2) v_wd)) ⟨hx, hb, hml, hown, hws⟩ hK hP hD hS hA hT (c_X0_write l D cB me ba H.size v_by v_ct r5 a2) (cwV 2 hws (gw_V mw_131 mw_132 mw_133 mw_14 mw_134) rfl rfl rfl hdX0_write ⟨Nat.le_of_ble_eq_true rfl, Nat.le_of_ble_eq_true rfl⟩) [1, 2] [0, 3, 4, 5] [0] [0, 4, 5, 1, 2, 3] rfl rfl rfl rfl (by decide) rfl (fun _ => rfl) rfl 1 rfl rfl rfl rfl hl.1 rfl (Nat.le_of_ble_eq_true rfl) dX3_setOperand_19 ⟨Nat.zero_le _, Nat.zero_le _⟩ (fun u9 H locs hw8 hP hD hS => ?_)
    obtain ⟨b6, b7⟩ := u9
    have hP : va_P D vwCl (kX3 cB cI gc me ba rg wa sm v_im v_ei v_ha v_hb v_cy b6 b7 v_wd) H := hP
    have hD : va_D A (kX3 cB cI gc me ba rg wa sm v_im v_ei v_ha v_hb v_cy b6 b7 v_wd) := hD
    have hf := hf.trans (kE2 hw8)
    refine lv_goto (tgt := 34) hx hb dX3_setOperand_22 (by decide) ?_
    rw [← hQ]
    exact W.vret hx hb hr (fun t ht hW => ⟨⟨(b6, b7, v_wd), rfl, hf.symm, by rw [ht]; exact hP, va_K.moved hW.alike hK, hD⟩, hS.F ht⟩) hS.2.2 dX3_setOperand_34
def fX3_executeBitPage (v_by : Nat → Int32) (v_ct : Int32) (v_wd : Nat → Int32)  : Int32 × (Nat → Int32) × Int32 × (Nat → Int32) := (kU2 (fX3_fetch v_by v_wd) (fun (r3 : Int32) (b1 : Nat → Int32) => (kU1 (((r3 >>> ((3 : Int32) &&& (31 : Int32))) &&& (7 : Int32))) (fun (x4 : Int32) => (kU1 ((r3 &&& (7 : Int32))) (fun (x5 : Int32) => (kU1 (fX3_operand v_by b1 x5) (fun (r7 : Int32) => (kIf (kEq (r3 >>> ((6 : Int32) &&& (31 : Int32))) (0 : Int32)) (kU2 (fX2_shift b1 x4 r7) (fun (r11 : Int32) (b9 : Nat → Int32) => (kU3 (fX3_setOperand v_by v_ct b9 x5 r11) (fun (b12 : Nat → Int32) (b13 : Int32) (b14 : Nat → Int32) => (kIf (kEq x5 (6 : Int32)) ((2 : Int32), b12, b13, b14) ((0 : Int32), b12, b13, b14)))))) (kIf (kEq (r3 >>> ((6 : Int32) &&& (31 : Int32))) (1 : Int32)) (kU1 (fX2_testBit b1 x4 r7) (fun (b18 : Nat → Int32) => (kIf (kEq x5 (6 : Int32)) ((1 : Int32), v_by, v_ct, b18) ((0 : Int32), v_by, v_ct, b18)))) (kIf (kEq (r3 >>> ((6 : Int32) &&& (31 : Int32))) (2 : Int32)) (kU3 (fX3_setOperand v_by v_ct b1 x5 (r7 &&& (((1 : Int32) <<< (x4 &&& (31 : Int32))) ^^^ (-1 : Int32)))) (fun (b22 : Nat → Int32) (b23 : Int32) (b24 : Nat → Int32) => (kIf (kEq x5 (6 : Int32)) ((2 : Int32), b22, b23, b24) ((0 : Int32), b22, b23, b24)))) (kU3 (fX3_setOperand v_by v_ct b1 x5 (r7 ||| ((1 : Int32) <<< (x4 &&& (31 : Int32))))) (fun (b27 : Nat → Int32) (b28 : Int32) (b29 : Nat → Int32) => (kIf (kEq x5 (6 : Int32)) ((2 : Int32), b27, b28, b29) ((0 : Int32), b27, b28, b29)))))))))))))))
def rmX3_executeBitPage : Room := { frames := 3, cells := 0, slots := 0, locals := 66 }
def wwX3_executeBitPage : List Cond := Cond.code yX3_executeBitPage cX3_executeBitPage 5 (some .int) :: wsL_law
theorem hdX3_executeBitPage : yX3_executeBitPage.cls = RX3 ∧ yX3_executeBitPage.cls ≠ "java/lang/invoke/MethodHandle" ∧ yX3_executeBitPage.cls ≠ "java/lang/invoke/VarHandle" ∧ (parseMethodDescriptor yX3_executeBitPage.desc).map (fun d => d.parameters.length) = some 0 := by decide +kernel
set_option maxHeartbeats 4000000 in
set_option maxRecDepth 100000 in
theorem c_X3_executeBitPage (l : Launch) (D : va_G) (cB : ClassId) (cI : ClassId) (gc me ba rg wa sm sz : Nat) (v_im : Bool) (v_ei : Bool) (v_ha : Bool) (v_hb : Bool) (v_cy : Int32) (v_by : Nat → Int32) (v_ct : Int32) (v_wd : Nat → Int32)   : Met l yX3_executeBitPage wwX3_executeBitPage rmX3_executeBitPage (va_Pc [.ref gc] (kp D (kX3 cB cI gc me ba rg wa sm v_im v_ei v_ha v_hb v_cy v_by v_ct v_wd) [(cB, .byte), (cI, .int)] sz)) (va_Qi (fun (r : Int32) (u9 : (Nat → Int32) × Int32 × (Nat → Int32)) => (r, u9) = fX3_executeBitPage v_by v_ct v_wd) (fun u9 t => kq D (kX3 cB cI gc me ba rg wa sm v_im v_ei v_ha v_hb v_cy (u9.1) (u9.2.1) (u9.2.2)) [(cB, .byte), (cI, .int)] (va_A (kX3 cB cI gc me ba rg wa sm v_im v_ei v_ha v_hb v_cy v_by v_ct v_wd) sz) t) (va_A (kX3 cB cI gc me ba rg wa sm v_im v_ei v_ha v_hb v_cy v_by v_ct v_wd) sz)) 0 0 (va_A (kX3 cB cI gc me ba rg wa sm v_im v_ei v_ha v_hb v_cy v_by v_ct v_wd) sz) := by
  refine Met.ofW (cc := cX3_executeBitPage) (maxL := 5) (ret := (some .int)) (by decide) rfl ?_
  intro p e s m args below meth c s₁ B hml hv
  obtain ⟨rfl, hsz, hP, hK, hD0, hT⟩ := hv
  have hx := B.exec
  have hb := B.bytes
  have hr := B.returns
  have hts := atoms_spec (ws := wwX3_executeBitPage) B.pre
  have hws : ∀ w ∈ wsL_law, w.before _ s = true := fun w h => hts w (List.mem_cons_of_mem _ h)
  have hown : s.vm.findClass RX3 = some m.cls := findClass_of_methodNamed B.named
  have hlocks := B.notSynchronized
  subst hsz
  have hD := hD0.self (sz := s.heap.size)
  generalize hAe : va_A (kX3 cB cI gc me ba rg wa sm v_im v_ei v_ha v_hb v_cy v_by v_ct v_wd) s.heap.size = A at hD hT ⊢
  have hA : ∀ q : Nat, s.heap.size ≤ q → A q := fun q h => by rw [← hAe]; exact Or.inr h
  have hS : va_S A s.heap s.heap [] := va_S.rf
  have hl := lv_entry ([.ref gc]) (n := 5) (Nat.le_of_ble_eq_true rfl)
  rw [lg_entry_eq]
  generalize (lg_sl ([.ref gc]) ++ List.replicate (5 - (lg_sl ([.ref gc])).length) Slot.unset).toArray = ls at hl ⊢
  have hl : lv_has ls 5 [(0, .ref gc)] := hl
  generalize hQ : MQ _ _ _ _ _ _ _ = Q
  obtain ⟨H, hHe⟩ : ∃ H : Heap, H = s.heap := ⟨_, rfl⟩
  obtain ⟨locs, hle⟩ : ∃ L : List Loc, L = [] := ⟨_, rfl⟩
  have hP : va_P D vwCl (kX3 cB cI gc me ba rg wa sm v_im v_ei v_ha v_hb v_cy v_by v_ct v_wd) H := by rw [hHe]; exact hP
  have hS : va_S A s.heap H locs := by rw [hHe, hle]; exact hS
  refine kw_start hHe.symm hle.symm ?_
  have hf : fX3_executeBitPage v_by v_ct v_wd = fX3_executeBitPage v_by v_ct v_wd := rfl
  refine lv_aload_n hx hb dX3_executeBitPage_0 rfl (lv_at hl 0 rfl) ?_
  refine kc_Vi (wr := []) (As := []) (rest := []) (fun u9 => (kX3 cB cI gc me ba rg wa sm v_im v_ei v_ha v_hb v_cy v_by v_ct u9)) ⟨hx, hb, hml, hown, hws⟩ hK hP hD hS hA hT (c_X3_fetch l D cB cI gc me ba rg wa sm H.size v_im v_ei v_ha v_hb v_cy v_by v_ct v_wd ) (cwV 0 hws (gw_V mw_181 mw_182 mw_183 mw_2 mw_184) rfl rfl rfl hdX3_fetch ⟨Nat.le_of_ble_eq_true rfl, Nat.le_of_ble_eq_true rfl⟩) [0, 1, 2, 3, 4, 5] [] [0, 1] [0, 1, 2, 3, 4, 5] rfl rfl rfl rfl (by decide) rfl (fun _ => rfl) rfl 0 rfl rfl rfl rfl hl.1 rfl (Nat.le_of_ble_eq_true rfl) dX3_executeBitPage_1 ⟨Nat.zero_le _, Nat.zero_le _⟩ (fun r3 b1 H locs hw2 hP hD hS => ?_)
  have hP : va_P D vwCl (kX3 cB cI gc me ba rg wa sm v_im v_ei v_ha v_hb v_cy v_by v_ct b1) H := hP
  have hD : va_D A (kX3 cB cI gc me ba rg wa sm v_im v_ei v_ha v_hb v_cy v_by v_ct b1) := hD
  have hf := hf.trans (kE2 hw2)
  refine lv_istore_n (lv' := [(1, .int r3), (0, .ref gc)]) hx hb dX3_executeBitPage_4 rfl hl (by decide) rfl (fun ls hl => ?_)
  refine lv_iload_n hx hb dX3_executeBitPage_5 rfl (lv_at hl 0 rfl) ?_
  refine lv_iconst (v := 3) hx hb dX3_executeBitPage_6 (by decide) ?_
  refine lv_ishr hx hb dX3_executeBitPage_7 ?_
  refine lv_bipush (v := 7) hx hb dX3_executeBitPage_8 (by decide) ?_
  refine lv_iand hx hb dX3_executeBitPage_10 ?_
  refine lv_topi (fun x4 ex4 => ?_)
  have hf := hf.trans (kE1 ex4)
  refine lv_istore_n (lv' := [(2, .int x4), (1, .int r3), (0, .ref gc)]) hx hb dX3_executeBitPage_11 rfl hl (by decide) rfl (fun ls hl => ?_)
  refine lv_iload_n hx hb dX3_executeBitPage_12 rfl (lv_at hl 1 rfl) ?_
  refine lv_bipush (v := 7) hx hb dX3_executeBitPage_13 (by decide) ?_
  refine lv_iand hx hb dX3_executeBitPage_15 ?_
  refine lv_topi (fun x5 ex5 => ?_)
  have hf := hf.trans (kE1 ex5)
  refine lv_istore_n (lv' := [(3, .int x5), (2, .int x4), (1, .int r3), (0, .ref gc)]) hx hb dX3_executeBitPage_16 rfl hl (by decide) rfl (fun ls hl => ?_)
  refine lv_aload_n hx hb dX3_executeBitPage_17 rfl (lv_at hl 3 rfl) ?_
  refine lv_iload_n hx hb dX3_executeBitPage_18 rfl (lv_at hl 0 rfl) ?_
  refine kc_Vi (wr := []) (As := [.int x5]) (rest := []) (fun _ => (kX3 cB cI gc me ba rg wa sm v_im v_ei v_ha v_hb v_cy v_by v_ct b1)) ⟨hx, hb, hml, hown, hws⟩ hK hP hD hS hA hT (c_X3_operand l D cB cI gc me ba rg wa sm H.size v_im v_ei v_ha v_hb v_cy v_by v_ct b1 x5) (cwV 1 hws (gw_V mw_185 mw_186 mw_187 mw_2 mw_188) rfl rfl rfl hdX3_operand ⟨Nat.le_of_ble_eq_true rfl, Nat.le_of_ble_eq_true rfl⟩) [0, 1, 2, 3, 4, 5] [] [0, 1] [0, 1, 2, 3, 4, 5] rfl rfl rfl rfl (by decide) rfl (fun _ => rfl) rfl 0 rfl rfl rfl rfl hl.1 rfl (Nat.le_of_ble_eq_true rfl) dX3_executeBitPage_19 ⟨Nat.zero_le _, Nat.zero_le _⟩ (fun r7 _ H locs hw6 hP hD hS => ?_)
  have hP : va_P D vwCl (kX3 cB cI gc me ba rg wa sm v_im v_ei v_ha v_hb v_cy v_by v_ct b1) H := hP
  have hD : va_D A (kX3 cB cI gc me ba rg wa sm v_im v_ei v_ha v_hb v_cy v_by v_ct b1) := hD
  have hf := hf.trans (kE1 hw6)
  refine lv_istore (lv' := [(4, .int r7), (3, .int x5), (2, .int x4), (1, .int r3), (0, .ref gc)]) hx hb dX3_executeBitPage_22 hl (by decide) rfl (fun ls hl => ?_)
  refine lv_iload_n hx hb dX3_executeBitPage_24 rfl (lv_at hl 3 rfl) ?_
  refine lv_bipush (v := 6) hx hb dX3_executeBitPage_25 (by decide) ?_
  refine lv_ishr hx hb dX3_executeBitPage_27 ?_
  by_cases c8 : (r3 >>> ((6 : Int32) &&& (31 : Int32))) = (0 : Int32)
  · have hf := hf.trans (kt_eq c8)
    refine lv_tableIn (off := 28) (tgt := 56) hx hb dX3_executeBitPage_28 (by rw [c8]; decide) (by rw [c8]; decide) (by rw [c8]; decide) (by decide) ?_
    refine lv_aload_n hx hb dX3_executeBitPage_56 rfl (lv_at hl 4 rfl) ?_
    refine lv_iload_n hx hb dX3_executeBitPage_57 rfl (lv_at hl 1 rfl) ?_
    refine lv_aload_n hx hb dX3_executeBitPage_58 rfl (lv_at hl 4 rfl) ?_
    refine va_get (D := D) (ci := 3) (v := .ref sm) (C := RX3) (T := TX3) (N := 8) hx hb hws inlX3 hown hK hP 0 rfl rfl 2 (by decide) (hws _ mw_19) (fun _ h9 => h9) rfl dX3_executeBitPage_59 ?_
    refine lv_iload_n hx hb dX3_executeBitPage_62 rfl (lv_at hl 2 rfl) ?_
    refine lv_iload hx hb dX3_executeBitPage_63 (lv_at hl 0 rfl) ?_
    refine kc_Vi (wr := [(gc, .inr (3, [.ref me, .ref rg, .ref sm, .int (bI v_im), .int (bI v_ei), .int (bI v_ha), .int (bI v_hb), .int v_cy])), (me, .inr (0, [.ref ba, .int v_ct])), (ba, .inl (cB, 65536, .inl v_by))]) (As := [.int x4, .int r7]) (rest := [.int x5, .ref gc]) (fun u9 => (kX3 cB cI gc me ba rg wa sm v_im v_ei v_ha v_hb v_cy v_by v_ct u9)) ⟨hx, hb, hml, hown, hws⟩ hK hP hD hS hA hT (c_X2_shift l D cI sm rg wa H.size b1 x4 r7) (cwV 2 hws (gw_V mw_199 mw_200 mw_201 mw_18 mw_202) rfl rfl rfl hdX2_shift ⟨Nat.le_of_ble_eq_true rfl, Nat.le_of_ble_eq_true rfl⟩) [5, 3, 4] [0, 1, 2] [1] [0, 1, 2, 4, 5, 3] rfl rfl rfl rfl (by decide) rfl (fun _ => rfl) rfl 5 rfl rfl rfl rfl hl.1 rfl (Nat.le_of_ble_eq_true rfl) dX3_executeBitPage_65 ⟨Nat.zero_le _, Nat.zero_le _⟩ (fun r11 b9 H locs hw10 hP hD hS => ?_)
    have hP : va_P D vwCl (kX3 cB cI gc me ba rg wa sm v_im v_ei v_ha v_hb v_cy v_by v_ct b9) H := hP
    have hD : va_D A (kX3 cB cI gc me ba rg wa sm v_im v_ei v_ha v_hb v_cy v_by v_ct b9) := hD
    have hf := hf.trans (kE2 hw10)
    refine kc_Vv (wr := []) (As := [.int x5, .int r11]) (rest := []) (fun u9 => (kX3 cB cI gc me ba rg wa sm v_im v_ei v_ha v_hb v_cy (u9.1) (u9.2.1) (u9.2.2))) ⟨hx, hb, hml, hown, hws⟩ hK hP hD hS hA hT (c_X3_setOperand l D cB cI gc me ba rg wa sm H.size v_im v_ei v_ha v_hb v_cy v_by v_ct b9 x5 r11) (cwV 2 hws (gw_V mw_215 mw_216 mw_217 mw_2 mw_218) rfl rfl rfl hdX3_setOperand ⟨Nat.le_of_ble_eq_true rfl, Nat.le_of_ble_eq_true rfl⟩) [0, 1, 2, 3, 4, 5] [] [0, 1] [0, 1, 2, 3, 4, 5] rfl rfl rfl rfl (by decide) rfl (fun _ => rfl) rfl 0 rfl rfl rfl rfl hl.1 rfl (Nat.le_of_ble_eq_true rfl) dX3_executeBitPage_68 ⟨Nat.zero_le _, Nat.zero_le _⟩ (fun u9 H locs hw15 hP hD hS => ?_)
    obtain ⟨b12, b13, b14⟩ := u9
    have hP : va_P D vwCl (kX3 cB cI gc me ba rg wa sm v_im v_ei v_ha v_hb v_cy b12 b13 b14) H := hP
    have hD : va_D A (kX3 cB cI gc me ba rg wa sm v_im v_ei v_ha v_hb v_cy b12 b13 b14) := hD
    have hf := hf.trans (kE3 hw15)
    refine lv_goto (tgt := 123) hx hb dX3_executeBitPage_71 (by decide) ?_
    refine lv_iload_n hx hb dX3_executeBitPage_123 rfl (lv_at hl 1 rfl) ?_
    refine lv_bipush (v := 6) hx hb dX3_executeBitPage_124 (by decide) ?_
    refine lv_icmp_ne (tgt := 133) hx hb dX3_executeBitPage_126 (by decide) (fun c16 => ?_) (fun c16 => ?_)
    · have hf := hf.trans (kf_eq c16)
      refine lv_iconst (v := 0) hx hb dX3_executeBitPage_133 (by decide) ?_
      rw [← hQ]
      exact W.iret (v := (0 : Int32)) hx hb hr (fun t ht hW => ⟨⟨(0 : Int32), (b12, b13, b14), rfl, hf.symm, by rw [ht]; exact hP, va_K.moved hW.alike hK, hD⟩, hS.F ht⟩) hS.2.2 dX3_executeBitPage_134
    · have hf := hf.trans (kt_eq c16)
      refine lv_iconst (v := 2) hx hb dX3_executeBitPage_129 (by decide) ?_
      refine lv_goto (tgt := 134) hx hb dX3_executeBitPage_130 (by decide) ?_
      rw [← hQ]
      exact W.iret (v := (2 : Int32)) hx hb hr (fun t ht hW => ⟨⟨(2 : Int32), (b12, b13, b14), rfl, hf.symm, by rw [ht]; exact hP, va_K.moved hW.alike hK, hD⟩, hS.F ht⟩) hS.2.2 dX3_executeBitPage_134
  · have hf := hf.trans (kf_eq c8)
    by_cases c17 : (r3 >>> ((6 : Int32) &&& (31 : Int32))) = (1 : Int32)
    · have hf := hf.trans (kt_eq c17)
      refine lv_tableIn (off := 46) (tgt := 74) hx hb dX3_executeBitPage_28 (by rw [c17]; decide) (by rw [c17]; decide) (by rw [c17]; decide) (by decide) ?_
      refine lv_aload_n hx hb dX3_executeBitPage_74 rfl (lv_at hl 4 rfl) ?_
      refine va_get (D := D) (ci := 3) (v := .ref sm) (C := RX3) (T := TX3) (N := 8) hx hb hws inlX3 hown hK hP 0 rfl rfl 2 (by decide) (hws _ mw_19) (fun _ h9 => h9) rfl dX3_executeBitPage_75 ?_
      refine lv_iload_n hx hb dX3_executeBitPage_78 rfl (lv_at hl 2 rfl) ?_
      refine lv_iload hx hb dX3_executeBitPage_79 (lv_at hl 0 rfl) ?_
      refine kc_Vv (wr := [(gc, .inr (3, [.ref me, .ref rg, .ref sm, .int (bI v_im), .int (bI v_ei), .int (bI v_ha), .int (bI v_hb), .int v_cy])), (me, .inr (0, [.ref ba, .int v_ct])), (ba, .inl (cB, 65536, .inl v_by))]) (As := [.int x4, .int r7]) (rest := []) (fun u9 => (kX3 cB cI gc me ba rg wa sm v_im v_ei v_ha v_hb v_cy v_by v_ct u9)) ⟨hx, hb, hml, hown, hws⟩ hK hP hD hS hA hT (c_X2_testBit l D cI sm rg wa H.size b1 x4 r7) (cwV 2 hws (gw_V mw_223 mw_224 mw_225 mw_18 mw_226) rfl rfl rfl hdX2_testBit ⟨Nat.le_of_ble_eq_true rfl, Nat.le_of_ble_eq_true rfl⟩) [5, 3, 4] [0, 1, 2] [1] [0, 1, 2, 4, 5, 3] rfl rfl rfl rfl (by decide) rfl (fun _ => rfl) rfl 5 rfl rfl rfl rfl hl.1 rfl (Nat.le_of_ble_eq_true rfl) dX3_executeBitPage_81 ⟨Nat.zero_le _, Nat.zero_le _⟩ (fun b18 H locs hw19 hP hD hS => ?_)
      have hP : va_P D vwCl (kX3 cB cI gc me ba rg wa sm v_im v_ei v_ha v_hb v_cy v_by v_ct b18) H := hP
      have hD : va_D A (kX3 cB cI gc me ba rg wa sm v_im v_ei v_ha v_hb v_cy v_by v_ct b18) := hD
      have hf := hf.trans (kE1 hw19)
      refine lv_iload_n hx hb dX3_executeBitPage_84 rfl (lv_at hl 1 rfl) ?_
      refine lv_bipush (v := 6) hx hb dX3_executeBitPage_85 (by decide) ?_
      refine lv_icmp_ne (tgt := 94) hx hb dX3_executeBitPage_87 (by decide) (fun c20 => ?_) (fun c20 => ?_)
      · have hf := hf.trans (kf_eq c20)
        refine lv_iconst (v := 0) hx hb dX3_executeBitPage_94 (by decide) ?_
        rw [← hQ]
        exact W.iret (v := (0 : Int32)) hx hb hr (fun t ht hW => ⟨⟨(0 : Int32), (v_by, v_ct, b18), rfl, hf.symm, by rw [ht]; exact hP, va_K.moved hW.alike hK, hD⟩, hS.F ht⟩) hS.2.2 dX3_executeBitPage_95
      · have hf := hf.trans (kt_eq c20)
        refine lv_iconst (v := 1) hx hb dX3_executeBitPage_90 (by decide) ?_
        refine lv_goto (tgt := 95) hx hb dX3_executeBitPage_91 (by decide) ?_
        rw [← hQ]
        exact W.iret (v := (1 : Int32)) hx hb hr (fun t ht hW => ⟨⟨(1 : Int32), (v_by, v_ct, b18), rfl, hf.symm, by rw [ht]; exact hP, va_K.moved hW.alike hK, hD⟩, hS.F ht⟩) hS.2.2 dX3_executeBitPage_95
    · have hf := hf.trans (kf_eq c17)
      by_cases c21 : (r3 >>> ((6 : Int32) &&& (31 : Int32))) = (2 : Int32)
      · have hf := hf.trans (kt_eq c21)
        refine lv_tableIn (off := 68) (tgt := 96) hx hb dX3_executeBitPage_28 (by rw [c21]; decide) (by rw [c21]; decide) (by rw [c21]; decide) (by decide) ?_
        refine lv_aload_n hx hb dX3_executeBitPage_96 rfl (lv_at hl 4 rfl) ?_
        refine lv_iload_n hx hb dX3_executeBitPage_97 rfl (lv_at hl 1 rfl) ?_
        refine lv_iload hx hb dX3_executeBitPage_98 (lv_at hl 0 rfl) ?_
        refine lv_iconst (v := 1) hx hb dX3_executeBitPage_100 (by decide) ?_
        refine lv_iload_n hx hb dX3_executeBitPage_101 rfl (lv_at hl 2 rfl) ?_
        refine lv_ishl hx hb dX3_executeBitPage_102 ?_
        refine lv_iconst (v := -1) hx hb dX3_executeBitPage_103 (by decide) ?_
        refine lv_ixor hx hb dX3_executeBitPage_104 ?_
        refine lv_iand hx hb dX3_executeBitPage_105 ?_
        refine kc_Vv (wr := []) (As := [.int x5, .int (r7 &&& (((1 : Int32) <<< (x4 &&& (31 : Int32))) ^^^ (-1 : Int32)))]) (rest := []) (fun u9 => (kX3 cB cI gc me ba rg wa sm v_im v_ei v_ha v_hb v_cy (u9.1) (u9.2.1) (u9.2.2))) ⟨hx, hb, hml, hown, hws⟩ hK hP hD hS hA hT (c_X3_setOperand l D cB cI gc me ba rg wa sm H.size v_im v_ei v_ha v_hb v_cy v_by v_ct b1 x5 (r7 &&& (((1 : Int32) <<< (x4 &&& (31 : Int32))) ^^^ (-1 : Int32)))) (cwV 2 hws (gw_V mw_215 mw_216 mw_217 mw_2 mw_218) rfl rfl rfl hdX3_setOperand ⟨Nat.le_of_ble_eq_true rfl, Nat.le_of_ble_eq_true rfl⟩) [0, 1, 2, 3, 4, 5] [] [0, 1] [0, 1, 2, 3, 4, 5] rfl rfl rfl rfl (by decide) rfl (fun _ => rfl) rfl 0 rfl rfl rfl rfl hl.1 rfl (Nat.le_of_ble_eq_true rfl) dX3_executeBitPage_106 ⟨Nat.zero_le _, Nat.zero_le _⟩ (fun u9 H locs hw25 hP hD hS => ?_)
        obtain ⟨b22, b23, b24⟩ := u9
        have hP : va_P D vwCl (kX3 cB cI gc me ba rg wa sm v_im v_ei v_ha v_hb v_cy b22 b23 b24) H := hP
        have hD : va_D A (kX3 cB cI gc me ba rg wa sm v_im v_ei v_ha v_hb v_cy b22 b23 b24) := hD
        have hf := hf.trans (kE3 hw25)
        refine lv_goto (tgt := 123) hx hb dX3_executeBitPage_109 (by decide) ?_
        refine lv_iload_n hx hb dX3_executeBitPage_123 rfl (lv_at hl 1 rfl) ?_
        refine lv_bipush (v := 6) hx hb dX3_executeBitPage_124 (by decide) ?_
        refine lv_icmp_ne (tgt := 133) hx hb dX3_executeBitPage_126 (by decide) (fun c26 => ?_) (fun c26 => ?_)
        · have hf := hf.trans (kf_eq c26)
          refine lv_iconst (v := 0) hx hb dX3_executeBitPage_133 (by decide) ?_
          rw [← hQ]
          exact W.iret (v := (0 : Int32)) hx hb hr (fun t ht hW => ⟨⟨(0 : Int32), (b22, b23, b24), rfl, hf.symm, by rw [ht]; exact hP, va_K.moved hW.alike hK, hD⟩, hS.F ht⟩) hS.2.2 dX3_executeBitPage_134
        · have hf := hf.trans (kt_eq c26)
          refine lv_iconst (v := 2) hx hb dX3_executeBitPage_129 (by decide) ?_
          refine lv_goto (tgt := 134) hx hb dX3_executeBitPage_130 (by decide) ?_
          rw [← hQ]
          exact W.iret (v := (2 : Int32)) hx hb hr (fun t ht hW => ⟨⟨(2 : Int32), (b22, b23, b24), rfl, hf.symm, by rw [ht]; exact hP, va_K.moved hW.alike hK, hD⟩, hS.F ht⟩) hS.2.2 dX3_executeBitPage_134
      · have hf := hf.trans (kf_eq c21)
        refine lv_tableOut (tgt := 112) hx hb dX3_executeBitPage_28 (by have n0 := lv_neT c8 (a := 0) rfl; have n1 := lv_neT c17 (a := 1) rfl; have n2 := lv_neT c21 (a := 2) rfl; omega) (by decide) ?_
        refine lv_aload_n hx hb dX3_executeBitPage_112 rfl (lv_at hl 4 rfl) ?_
        refine lv_iload_n hx hb dX3_executeBitPage_113 rfl (lv_at hl 1 rfl) ?_
        refine lv_iload hx hb dX3_executeBitPage_114 (lv_at hl 0 rfl) ?_
        refine lv_iconst (v := 1) hx hb dX3_executeBitPage_116 (by decide) ?_
        refine lv_iload_n hx hb dX3_executeBitPage_117 rfl (lv_at hl 2 rfl) ?_
        refine lv_ishl hx hb dX3_executeBitPage_118 ?_
        refine lv_ior hx hb dX3_executeBitPage_119 ?_
        refine kc_Vv (wr := []) (As := [.int x5, .int (r7 ||| ((1 : Int32) <<< (x4 &&& (31 : Int32))))]) (rest := []) (fun u9 => (kX3 cB cI gc me ba rg wa sm v_im v_ei v_ha v_hb v_cy (u9.1) (u9.2.1) (u9.2.2))) ⟨hx, hb, hml, hown, hws⟩ hK hP hD hS hA hT (c_X3_setOperand l D cB cI gc me ba rg wa sm H.size v_im v_ei v_ha v_hb v_cy v_by v_ct b1 x5 (r7 ||| ((1 : Int32) <<< (x4 &&& (31 : Int32))))) (cwV 2 hws (gw_V mw_215 mw_216 mw_217 mw_2 mw_218) rfl rfl rfl hdX3_setOperand ⟨Nat.le_of_ble_eq_true rfl, Nat.le_of_ble_eq_true rfl⟩) [0, 1, 2, 3, 4, 5] [] [0, 1] [0, 1, 2, 3, 4, 5] rfl rfl rfl rfl (by decide) rfl (fun _ => rfl) rfl 0 rfl rfl rfl rfl hl.1 rfl (Nat.le_of_ble_eq_true rfl) dX3_executeBitPage_120 ⟨Nat.zero_le _, Nat.zero_le _⟩ (fun u9 H locs hw30 hP hD hS => ?_)
        obtain ⟨b27, b28, b29⟩ := u9
        have hP : va_P D vwCl (kX3 cB cI gc me ba rg wa sm v_im v_ei v_ha v_hb v_cy b27 b28 b29) H := hP
        have hD : va_D A (kX3 cB cI gc me ba rg wa sm v_im v_ei v_ha v_hb v_cy b27 b28 b29) := hD
        have hf := hf.trans (kE3 hw30)
        refine lv_iload_n hx hb dX3_executeBitPage_123 rfl (lv_at hl 1 rfl) ?_
        refine lv_bipush (v := 6) hx hb dX3_executeBitPage_124 (by decide) ?_
        refine lv_icmp_ne (tgt := 133) hx hb dX3_executeBitPage_126 (by decide) (fun c31 => ?_) (fun c31 => ?_)
        · have hf := hf.trans (kf_eq c31)
          refine lv_iconst (v := 0) hx hb dX3_executeBitPage_133 (by decide) ?_
          rw [← hQ]
          exact W.iret (v := (0 : Int32)) hx hb hr (fun t ht hW => ⟨⟨(0 : Int32), (b27, b28, b29), rfl, hf.symm, by rw [ht]; exact hP, va_K.moved hW.alike hK, hD⟩, hS.F ht⟩) hS.2.2 dX3_executeBitPage_134
        · have hf := hf.trans (kt_eq c31)
          refine lv_iconst (v := 2) hx hb dX3_executeBitPage_129 (by decide) ?_
          refine lv_goto (tgt := 134) hx hb dX3_executeBitPage_130 (by decide) ?_
          rw [← hQ]
          exact W.iret (v := (2 : Int32)) hx hb hr (fun t ht hW => ⟨⟨(2 : Int32), (b27, b28, b29), rfl, hf.symm, by rw [ht]; exact hP, va_K.moved hW.alike hK, hD⟩, hS.F ht⟩) hS.2.2 dX3_executeBitPage_134
def fX3_fetchWord (v_by : Nat → Int32) (v_wd : Nat → Int32)  : Int32 × (Nat → Int32) := (kU1 (fX1_word v_wd (5 : Int32)) (fun (r2 : Int32) => (kU2 (fX1_setWord v_wd (5 : Int32) (r2 + (2 : Int32))) (fun (z6 : Bool) (b3 : Nat → Int32) => (kU1 (fX0_at v_by r2) (fun (r8 : Int32) => (kU1 (fX0_at v_by (r2 + (1 : Int32))) (fun (r10 : Int32) => ((r8 ||| (r10 <<< ((8 : Int32) &&& (31 : Int32)))), b3)))))))))
def rmX3_fetchWord : Room := { frames := 1, cells := 0, slots := 0, locals := 22 }
def wwX3_fetchWord : List Cond := Cond.code yX3_fetchWord cX3_fetchWord 2 (some .int) :: wsL_law
theorem hdX3_fetchWord : yX3_fetchWord.cls = RX3 ∧ yX3_fetchWord.cls ≠ "java/lang/invoke/MethodHandle" ∧ yX3_fetchWord.cls ≠ "java/lang/invoke/VarHandle" ∧ (parseMethodDescriptor yX3_fetchWord.desc).map (fun d => d.parameters.length) = some 0 := by decide +kernel
set_option maxHeartbeats 4000000 in
set_option maxRecDepth 100000 in
theorem c_X3_fetchWord (l : Launch) (D : va_G) (cB : ClassId) (cI : ClassId) (gc me ba rg wa sm sz : Nat) (v_im : Bool) (v_ei : Bool) (v_ha : Bool) (v_hb : Bool) (v_cy : Int32) (v_by : Nat → Int32) (v_ct : Int32) (v_wd : Nat → Int32)   : Met l yX3_fetchWord wwX3_fetchWord rmX3_fetchWord (va_Pc [.ref gc] (kp D (kX3 cB cI gc me ba rg wa sm v_im v_ei v_ha v_hb v_cy v_by v_ct v_wd) [(cB, .byte), (cI, .int)] sz)) (va_Qi (fun (r : Int32) (u9 : (Nat → Int32)) => (r, u9) = fX3_fetchWord v_by v_wd) (fun u9 t => kq D (kX3 cB cI gc me ba rg wa sm v_im v_ei v_ha v_hb v_cy v_by v_ct u9) [(cB, .byte), (cI, .int)] (va_A (kX3 cB cI gc me ba rg wa sm v_im v_ei v_ha v_hb v_cy v_by v_ct v_wd) sz) t) (va_A (kX3 cB cI gc me ba rg wa sm v_im v_ei v_ha v_hb v_cy v_by v_ct v_wd) sz)) 0 0 (va_A (kX3 cB cI gc me ba rg wa sm v_im v_ei v_ha v_hb v_cy v_by v_ct v_wd) sz) := by
  refine Met.ofW (cc := cX3_fetchWord) (maxL := 2) (ret := (some .int)) (by decide) rfl ?_
  intro p e s m args below meth c s₁ B hml hv
  obtain ⟨rfl, hsz, hP, hK, hD0, hT⟩ := hv
  have hx := B.exec
  have hb := B.bytes
  have hr := B.returns
  have hts := atoms_spec (ws := wwX3_fetchWord) B.pre
  have hws : ∀ w ∈ wsL_law, w.before _ s = true := fun w h => hts w (List.mem_cons_of_mem _ h)
  have hown : s.vm.findClass RX3 = some m.cls := findClass_of_methodNamed B.named
  have hlocks := B.notSynchronized
  subst hsz
  have hD := hD0.self (sz := s.heap.size)
  generalize hAe : va_A (kX3 cB cI gc me ba rg wa sm v_im v_ei v_ha v_hb v_cy v_by v_ct v_wd) s.heap.size = A at hD hT ⊢
  have hA : ∀ q : Nat, s.heap.size ≤ q → A q := fun q h => by rw [← hAe]; exact Or.inr h
  have hS : va_S A s.heap s.heap [] := va_S.rf
  have hl := lv_entry ([.ref gc]) (n := 2) (Nat.le_of_ble_eq_true rfl)
  rw [lg_entry_eq]
  generalize (lg_sl ([.ref gc]) ++ List.replicate (2 - (lg_sl ([.ref gc])).length) Slot.unset).toArray = ls at hl ⊢
  have hl : lv_has ls 2 [(0, .ref gc)] := hl
  generalize hQ : MQ _ _ _ _ _ _ _ = Q
  obtain ⟨H, hHe⟩ : ∃ H : Heap, H = s.heap := ⟨_, rfl⟩
  obtain ⟨locs, hle⟩ : ∃ L : List Loc, L = [] := ⟨_, rfl⟩
  have hP : va_P D vwCl (kX3 cB cI gc me ba rg wa sm v_im v_ei v_ha v_hb v_cy v_by v_ct v_wd) H := by rw [hHe]; exact hP
  have hS : va_S A s.heap H locs := by rw [hHe, hle]; exact hS
  refine kw_start hHe.symm hle.symm ?_
  have hf : fX3_fetchWord v_by v_wd = fX3_fetchWord v_by v_wd := rfl
  refine lv_aload_n hx hb dX3_fetchWord_0 rfl (lv_at hl 0 rfl) ?_
  refine va_get (D := D) (ci := 3) (v := .ref rg) (C := RX3) (T := TX3) (N := 8) hx hb hws inlX3 hown hK hP 0 rfl rfl 1 (by decide) (hws _ mw_20) (fun _ h9 => h9) rfl dX3_fetchWord_1 ?_
  refine lv_iconst (v := 5) hx hb dX3_fetchWord_4 (by decide) ?_
  refine kc_Vi (wr := [(gc, .inr (3, [.ref me, .ref rg, .ref sm, .int (bI v_im), .int (bI v_ei), .int (bI v_ha), .int (bI v_hb), .int v_cy])), (me, .inr (0, [.ref ba, .int v_ct])), (ba, .inl (cB, 65536, .inl v_by)), (sm, .inr (2, [.ref rg]))]) (As := [.int (5 : Int32)]) (rest := []) (fun _ => (kX3 cB cI gc me ba rg wa sm v_im v_ei v_ha v_hb v_cy v_by v_ct v_wd)) ⟨hx, hb, hml, hown, hws⟩ hK hP hD hS hA hT (c_X1_word l D cI rg wa H.size v_wd (5 : Int32)) (cwV 1 hws (gw_V mw_123 mw_124 mw_125 mw_32 mw_126) rfl rfl rfl hdX1_word ⟨Nat.le_of_ble_eq_true rfl, Nat.le_of_ble_eq_true rfl⟩) [3, 4] [0, 1, 2, 5] [1] [0, 1, 2, 4, 5, 3] rfl rfl rfl rfl (by decide) rfl (fun _ => rfl) rfl 3 rfl rfl rfl rfl hl.1 rfl (Nat.le_of_ble_eq_true rfl) dX3_fetchWord_5 ⟨Nat.zero_le _, Nat.zero_le _⟩ (fun r2 _ H locs hw1 hP hD hS => ?_)
  have hP : va_P D vwCl (kX3 cB cI gc me ba rg wa sm v_im v_ei v_ha v_hb v_cy v_by v_ct v_wd) H := hP
  have hD : va_D A (kX3 cB cI gc me ba rg wa sm v_im v_ei v_ha v_hb v_cy v_by v_ct v_wd) := hD
  have hf := hf.trans (kE1 hw1)
  refine lv_istore_n (lv' := [(1, .int r2), (0, .ref gc)]) hx hb dX3_fetchWord_8 rfl hl (by decide) rfl (fun ls hl => ?_)
  refine lv_aload_n hx hb dX3_fetchWord_9 rfl (lv_at hl 1 rfl) ?_
  refine va_get (D := D) (ci := 3) (v := .ref rg) (C := RX3) (T := TX3) (N := 8) hx hb hws inlX3 hown hK hP 0 rfl rfl 1 (by decide) (hws _ mw_20) (fun _ h9 => h9) rfl dX3_fetchWord_10 ?_
  refine lv_iconst (v := 5) hx hb dX3_fetchWord_13 (by decide) ?_
  refine lv_iload_n hx hb dX3_fetchWord_14 rfl (lv_at hl 0 rfl) ?_
  refine lv_iconst (v := 2) hx hb dX3_fetchWord_15 (by decide) ?_
  refine lv_iadd hx hb dX3_fetchWord_16 ?_
  refine kc_Vi (wr := [(gc, .inr (3, [.ref me, .ref rg, .ref sm, .int (bI v_im), .int (bI v_ei), .int (bI v_ha), .int (bI v_hb), .int v_cy])), (me, .inr (0, [.ref ba, .int v_ct])), (ba, .inl (cB, 65536, .inl v_by)), (sm, .inr (2, [.ref rg]))]) (As := [.int (5 : Int32), .int (r2 + (2 : Int32))]) (rest := []) (fun u9 => (kX3 cB cI gc me ba rg wa sm v_im v_ei v_ha v_hb v_cy v_by v_ct u9)) ⟨hx, hb, hml, hown, hws⟩ hK hP hD hS hA hT (c_X1_setWord l D cI rg wa H.size v_wd (5 : Int32) (r2 + (2 : Int32))) (cwV 2 hws (gw_V mw_137 mw_138 mw_139 mw_32 mw_140) rfl rfl rfl hdX1_setWord ⟨Nat.le_of_ble_eq_true rfl, Nat.le_of_ble_eq_true rfl⟩) [3, 4] [0, 1, 2, 5] [1] [0, 1, 2, 4, 5, 3] rfl rfl rfl rfl (by decide) rfl (fun _ => rfl) rfl 3 rfl rfl rfl rfl hl.1 rfl (Nat.le_of_ble_eq_true rfl) dX3_fetchWord_17 ⟨Nat.zero_le _, Nat.zero_le _⟩ (fun r5 b3 H locs hw4 hP hD hS => ?_)
  obtain ⟨z6, rfl, hw4⟩ := hw4
  have hP : va_P D vwCl (kX3 cB cI gc me ba rg wa sm v_im v_ei v_ha v_hb v_cy v_by v_ct b3) H := hP
  have hD : va_D A (kX3 cB cI gc me ba rg wa sm v_im v_ei v_ha v_hb v_cy v_by v_ct b3) := hD
  have hf := hf.trans (kE2 hw4)
  refine lv_pop hx hb dX3_fetchWord_20 rfl ?_
  refine lv_aload_n hx hb dX3_fetchWord_21 rfl (lv_at hl 1 rfl) ?_
  refine va_get (D := D) (ci := 3) (v := .ref me) (C := RX3) (T := TX3) (N := 8) hx hb hws inlX3 hown hK hP 0 rfl rfl 0 (by decide) (hws _ mw_15) (fun _ h9 => h9) rfl dX3_fetchWord_22 ?_
  refine lv_iload_n hx hb dX3_fetchWord_25 rfl (lv_at hl 0 rfl) ?_
  refine kc_Vi (wr := [(gc, .inr (3, [.ref me, .ref rg, .ref sm, .int (bI v_im), .int (bI v_ei), .int (bI v_ha), .int (bI v_hb), .int v_cy])), (rg, .inr (1, [.ref wa])), (wa, .inl (cI, 6, .inl b3)), (sm, .inr (2, [.ref rg]))]) (As := [.int r2]) (rest := []) (fun _ => (kX3 cB cI gc me ba rg wa sm v_im v_ei v_ha v_hb v_cy v_by v_ct b3)) ⟨hx, hb, hml, hown, hws⟩ hK hP hD hS hA hT (c_X0_at l D cB me ba H.size v_by v_ct r2) (cwV 1 hws (gw_V mw_85 mw_86 mw_87 mw_14 mw_88) rfl rfl rfl hdX0_at ⟨Nat.le_of_ble_eq_true rfl, Nat.le_of_ble_eq_true rfl⟩) [1, 2] [0, 3, 4, 5] [0] [0, 4, 5, 1, 2, 3] rfl rfl rfl rfl (by decide) rfl (fun _ => rfl) rfl 1 rfl rfl rfl rfl hl.1 rfl (Nat.le_of_ble_eq_true rfl) dX3_fetchWord_26 ⟨Nat.zero_le _, Nat.zero_le _⟩ (fun r8 _ H locs hw7 hP hD hS => ?_)
  have hP : va_P D vwCl (kX3 cB cI gc me ba rg wa sm v_im v_ei v_ha v_hb v_cy v_by v_ct b3) H := hP
  have hD : va_D A (kX3 cB cI gc me ba rg wa sm v_im v_ei v_ha v_hb v_cy v_by v_ct b3) := hD
  have hf := hf.trans (kE1 hw7)
  refine lv_aload_n hx hb dX3_fetchWord_29 rfl (lv_at hl 1 rfl) ?_
  refine va_get (D := D) (ci := 3) (v := .ref me) (C := RX3) (T := TX3) (N := 8) hx hb hws inlX3 hown hK hP 0 rfl rfl 0 (by decide) (hws _ mw_15) (fun _ h9 => h9) rfl dX3_fetchWord_30 ?_
  refine lv_iload_n hx hb dX3_fetchWord_33 rfl (lv_at hl 0 rfl) ?_
  refine lv_iconst (v := 1) hx hb dX3_fetchWord_34 (by decide) ?_
  refine lv_iadd hx hb dX3_fetchWord_35 ?_
  refine kc_Vi (wr := [(gc, .inr (3, [.ref me, .ref rg, .ref sm, .int (bI v_im), .int (bI v_ei), .int (bI v_ha), .int (bI v_hb), .int v_cy])), (rg, .inr (1, [.ref wa])), (wa, .inl (cI, 6, .inl b3)), (sm, .inr (2, [.ref rg]))]) (As := [.int (r2 + (1 : Int32))]) (rest := [.int r8]) (fun _ => (kX3 cB cI gc me ba rg wa sm v_im v_ei v_ha v_hb v_cy v_by v_ct b3)) ⟨hx, hb, hml, hown, hws⟩ hK hP hD hS hA hT (c_X0_at l D cB me ba H.size v_by v_ct (r2 + (1 : Int32))) (cwV 1 hws (gw_V mw_85 mw_86 mw_87 mw_14 mw_88) rfl rfl rfl hdX0_at ⟨Nat.le_of_ble_eq_true rfl, Nat.le_of_ble_eq_true rfl⟩) [1, 2] [0, 3, 4, 5] [0] [0, 4, 5, 1, 2, 3] rfl rfl rfl rfl (by decide) rfl (fun _ => rfl) rfl 1 rfl rfl rfl rfl hl.1 rfl (Nat.le_of_ble_eq_true rfl) dX3_fetchWord_36 ⟨Nat.zero_le _, Nat.zero_le _⟩ (fun r10 _ H locs hw9 hP hD hS => ?_)
  have hP : va_P D vwCl (kX3 cB cI gc me ba rg wa sm v_im v_ei v_ha v_hb v_cy v_by v_ct b3) H := hP
  have hD : va_D A (kX3 cB cI gc me ba rg wa sm v_im v_ei v_ha v_hb v_cy v_by v_ct b3) := hD
  have hf := hf.trans (kE1 hw9)
  refine lv_bipush (v := 8) hx hb dX3_fetchWord_39 (by decide) ?_
  refine lv_ishl hx hb dX3_fetchWord_41 ?_
  refine lv_ior hx hb dX3_fetchWord_42 ?_
  rw [← hQ]
  exact W.iret (v := (r8 ||| (r10 <<< ((8 : Int32) &&& (31 : Int32))))) hx hb hr (fun t ht hW => ⟨⟨(r8 ||| (r10 <<< ((8 : Int32) &&& (31 : Int32)))), b3, rfl, hf.symm, by rw [ht]; exact hP, va_K.moved hW.alike hK, hD⟩, hS.F ht⟩) hS.2.2 dX3_fetchWord_43
def fX3_storeSp (v_by : Nat → Int32) (v_ct : Int32) (v_wd : Nat → Int32)  : (Nat → Int32) × Int32 × (Nat → Int32) := (kU2 (fX3_fetchWord v_by v_wd) (fun (r3 : Int32) (b1 : Nat → Int32) => (kU1 (fX1_word b1 (4 : Int32)) (fun (r5 : Int32) => (kU2 (fX0_write v_by v_ct r3 r5) (fun (b6 : Nat → Int32) (b7 : Int32) => (kU2 (fX0_write b6 b7 (r3 + (1 : Int32)) (r5 >>> ((8 : Int32) &&& (31 : Int32)))) (fun (b9 : Nat → Int32) (b10 : Int32) => (b9, b10, b1)))))))))
def rmX3_storeSp : Room := { frames := 2, cells := 0, slots := 0, locals := 43 }
def wwX3_storeSp : List Cond := Cond.code yX3_storeSp cX3_storeSp 3 none :: wsL_law
theorem hdX3_storeSp : yX3_storeSp.cls = RX3 ∧ yX3_storeSp.cls ≠ "java/lang/invoke/MethodHandle" ∧ yX3_storeSp.cls ≠ "java/lang/invoke/VarHandle" ∧ (parseMethodDescriptor yX3_storeSp.desc).map (fun d => d.parameters.length) = some 0 := by decide +kernel
set_option maxHeartbeats 4000000 in
set_option maxRecDepth 100000 in
theorem c_X3_storeSp (l : Launch) (D : va_G) (cB : ClassId) (cI : ClassId) (gc me ba rg wa sm sz : Nat) (v_im : Bool) (v_ei : Bool) (v_ha : Bool) (v_hb : Bool) (v_cy : Int32) (v_by : Nat → Int32) (v_ct : Int32) (v_wd : Nat → Int32)   : Met l yX3_storeSp wwX3_storeSp rmX3_storeSp (va_Pc [.ref gc] (kp D (kX3 cB cI gc me ba rg wa sm v_im v_ei v_ha v_hb v_cy v_by v_ct v_wd) [(cB, .byte), (cI, .int)] sz)) (va_Qv (fun (u9 : (Nat → Int32) × Int32 × (Nat → Int32)) => u9 = fX3_storeSp v_by v_ct v_wd) (fun u9 t => kq D (kX3 cB cI gc me ba rg wa sm v_im v_ei v_ha v_hb v_cy (u9.1) (u9.2.1) (u9.2.2)) [(cB, .byte), (cI, .int)] (va_A (kX3 cB cI gc me ba rg wa sm v_im v_ei v_ha v_hb v_cy v_by v_ct v_wd) sz) t) (va_A (kX3 cB cI gc me ba rg wa sm v_im v_ei v_ha v_hb v_cy v_by v_ct v_wd) sz)) 0 0 (va_A (kX3 cB cI gc me ba rg wa sm v_im v_ei v_ha v_hb v_cy v_by v_ct v_wd) sz) := by
  refine Met.ofW (cc := cX3_storeSp) (maxL := 3) (ret := none) (by decide) rfl ?_
  intro p e s m args below meth c s₁ B hml hv
  obtain ⟨rfl, hsz, hP, hK, hD0, hT⟩ := hv
  have hx := B.exec
  have hb := B.bytes
  have hr := B.returns
  have hts := atoms_spec (ws := wwX3_storeSp) B.pre
  have hws : ∀ w ∈ wsL_law, w.before _ s = true := fun w h => hts w (List.mem_cons_of_mem _ h)
  have hown : s.vm.findClass RX3 = some m.cls := findClass_of_methodNamed B.named
  have hlocks := B.notSynchronized
  subst hsz
  have hD := hD0.self (sz := s.heap.size)
  generalize hAe : va_A (kX3 cB cI gc me ba rg wa sm v_im v_ei v_ha v_hb v_cy v_by v_ct v_wd) s.heap.size = A at hD hT ⊢
  have hA : ∀ q : Nat, s.heap.size ≤ q → A q := fun q h => by rw [← hAe]; exact Or.inr h
  have hS : va_S A s.heap s.heap [] := va_S.rf
  have hl := lv_entry ([.ref gc]) (n := 3) (Nat.le_of_ble_eq_true rfl)
  rw [lg_entry_eq]
  generalize (lg_sl ([.ref gc]) ++ List.replicate (3 - (lg_sl ([.ref gc])).length) Slot.unset).toArray = ls at hl ⊢
  have hl : lv_has ls 3 [(0, .ref gc)] := hl
  generalize hQ : MQ _ _ _ _ _ _ _ = Q
  obtain ⟨H, hHe⟩ : ∃ H : Heap, H = s.heap := ⟨_, rfl⟩
  obtain ⟨locs, hle⟩ : ∃ L : List Loc, L = [] := ⟨_, rfl⟩
  have hP : va_P D vwCl (kX3 cB cI gc me ba rg wa sm v_im v_ei v_ha v_hb v_cy v_by v_ct v_wd) H := by rw [hHe]; exact hP
  have hS : va_S A s.heap H locs := by rw [hHe, hle]; exact hS
  refine kw_start hHe.symm hle.symm ?_
  have hf : fX3_storeSp v_by v_ct v_wd = fX3_storeSp v_by v_ct v_wd := rfl
  refine lv_aload_n hx hb dX3_storeSp_0 rfl (lv_at hl 0 rfl) ?_
  refine kc_Vi (wr := []) (As := []) (rest := []) (fun u9 => (kX3 cB cI gc me ba rg wa sm v_im v_ei v_ha v_hb v_cy v_by v_ct u9)) ⟨hx, hb, hml, hown, hws⟩ hK hP hD hS hA hT (c_X3_fetchWord l D cB cI gc me ba rg wa sm H.size v_im v_ei v_ha v_hb v_cy v_by v_ct v_wd ) (cwV 0 hws (gw_V mw_235 mw_236 mw_237 mw_2 mw_238) rfl rfl rfl hdX3_fetchWord ⟨Nat.le_of_ble_eq_true rfl, Nat.le_of_ble_eq_true rfl⟩) [0, 1, 2, 3, 4, 5] [] [0, 1] [0, 1, 2, 3, 4, 5] rfl rfl rfl rfl (by decide) rfl (fun _ => rfl) rfl 0 rfl rfl rfl rfl hl.1 rfl (Nat.le_of_ble_eq_true rfl) dX3_storeSp_1 ⟨Nat.zero_le _, Nat.zero_le _⟩ (fun r3 b1 H locs hw2 hP hD hS => ?_)
  have hP : va_P D vwCl (kX3 cB cI gc me ba rg wa sm v_im v_ei v_ha v_hb v_cy v_by v_ct b1) H := hP
  have hD : va_D A (kX3 cB cI gc me ba rg wa sm v_im v_ei v_ha v_hb v_cy v_by v_ct b1) := hD
  have hf := hf.trans (kE2 hw2)
  refine lv_istore_n (lv' := [(1, .int r3), (0, .ref gc)]) hx hb dX3_storeSp_4 rfl hl (by decide) rfl (fun ls hl => ?_)
  refine lv_aload_n hx hb dX3_storeSp_5 rfl (lv_at hl 1 rfl) ?_
  refine va_get (D := D) (ci := 3) (v := .ref rg) (C := RX3) (T := TX3) (N := 8) hx hb hws inlX3 hown hK hP 0 rfl rfl 1 (by decide) (hws _ mw_20) (fun _ h9 => h9) rfl dX3_storeSp_6 ?_
  refine lv_iconst (v := 4) hx hb dX3_storeSp_9 (by decide) ?_
  refine kc_Vi (wr := [(gc, .inr (3, [.ref me, .ref rg, .ref sm, .int (bI v_im), .int (bI v_ei), .int (bI v_ha), .int (bI v_hb), .int v_cy])), (me, .inr (0, [.ref ba, .int v_ct])), (ba, .inl (cB, 65536, .inl v_by)), (sm, .inr (2, [.ref rg]))]) (As := [.int (4 : Int32)]) (rest := []) (fun _ => (kX3 cB cI gc me ba rg wa sm v_im v_ei v_ha v_hb v_cy v_by v_ct b1)) ⟨hx, hb, hml, hown, hws⟩ hK hP hD hS hA hT (c_X1_word l D cI rg wa H.size b1 (4 : Int32)) (cwV 1 hws (gw_V mw_123 mw_124 mw_125 mw_32 mw_126) rfl rfl rfl hdX1_word ⟨Nat.le_of_ble_eq_true rfl, Nat.le_of_ble_eq_true rfl⟩) [3, 4] [0, 1, 2, 5] [1] [0, 1, 2, 4, 5, 3] rfl rfl rfl rfl (by decide) rfl (fun _ => rfl) rfl 3 rfl rfl rfl rfl hl.1 rfl (Nat.le_of_ble_eq_true rfl) dX3_storeSp_10 ⟨Nat.zero_le _, Nat.zero_le _⟩ (fun r5 _ H locs hw4 hP hD hS => ?_)
  have hP : va_P D vwCl (kX3 cB cI gc me ba rg wa sm v_im v_ei v_ha v_hb v_cy v_by v_ct b1) H := hP
  have hD : va_D A (kX3 cB cI gc me ba rg wa sm v_im v_ei v_ha v_hb v_cy v_by v_ct b1) := hD
  have hf := hf.trans (kE1 hw4)
  refine lv_istore_n (lv' := [(2, .int r5), (1, .int r3), (0, .ref gc)]) hx hb dX3_storeSp_13 rfl hl (by decide) rfl (fun ls hl => ?_)
  refine lv_aload_n hx hb dX3_storeSp_14 rfl (lv_at hl 2 rfl) ?_
  refine va_get (D := D) (ci := 3) (v := .ref me) (C := RX3) (T := TX3) (N := 8) hx hb hws inlX3 hown hK hP 0 rfl rfl 0 (by decide) (hws _ mw_15) (fun _ h9 => h9) rfl dX3_storeSp_15 ?_
  refine lv_iload_n hx hb dX3_storeSp_18 rfl (lv_at hl 1 rfl) ?_
  refine lv_iload_n hx hb dX3_storeSp_19 rfl (lv_at hl 0 rfl) ?_
  refine kc_Vv (wr := [(gc, .inr (3, [.ref me, .ref rg, .ref sm, .int (bI v_im), .int (bI v_ei), .int (bI v_ha), .int (bI v_hb), .int v_cy])), (rg, .inr (1, [.ref wa])), (wa, .inl (cI, 6, .inl b1)), (sm, .inr (2, [.ref rg]))]) (As := [.int r3, .int r5]) (rest := []) (fun u9 => (kX3 cB cI gc me ba rg wa sm v_im v_ei v_ha v_hb v_cy (u9.1) (u9.2) b1)) ⟨hx, hb, hml, hown, hws⟩ hK hP hD hS hA hT (c_X0_write l D cB me ba H.size v_by v_ct r3 r5) (cwV 2 hws (gw_V mw_131 mw_132 mw_133 mw_14 mw_134) rfl rfl rfl hdX0_write ⟨Nat.le_of_ble_eq_true rfl, Nat.le_of_ble_eq_true rfl⟩) [1, 2] [0, 3, 4, 5] [0] [0, 4, 5, 1, 2, 3] rfl rfl rfl rfl (by decide) rfl (fun _ => rfl) rfl 1 rfl rfl rfl rfl hl.1 rfl (Nat.le_of_ble_eq_true rfl) dX3_storeSp_20 ⟨Nat.zero_le _, Nat.zero_le _⟩ (fun u9 H locs hw8 hP hD hS => ?_)
  obtain ⟨b6, b7⟩ := u9
  have hP : va_P D vwCl (kX3 cB cI gc me ba rg wa sm v_im v_ei v_ha v_hb v_cy b6 b7 b1) H := hP
  have hD : va_D A (kX3 cB cI gc me ba rg wa sm v_im v_ei v_ha v_hb v_cy b6 b7 b1) := hD
  have hf := hf.trans (kE2 hw8)
  refine lv_aload_n hx hb dX3_storeSp_23 rfl (lv_at hl 2 rfl) ?_
  refine va_get (D := D) (ci := 3) (v := .ref me) (C := RX3) (T := TX3) (N := 8) hx hb hws inlX3 hown hK hP 0 rfl rfl 0 (by decide) (hws _ mw_15) (fun _ h9 => h9) rfl dX3_storeSp_24 ?_
  refine lv_iload_n hx hb dX3_storeSp_27 rfl (lv_at hl 1 rfl) ?_
  refine lv_iconst (v := 1) hx hb dX3_storeSp_28 (by decide) ?_
  refine lv_iadd hx hb dX3_storeSp_29 ?_
  refine lv_iload_n hx hb dX3_storeSp_30 rfl (lv_at hl 0 rfl) ?_
  refine lv_bipush (v := 8) hx hb dX3_storeSp_31 (by decide) ?_
  refine lv_ishr hx hb dX3_storeSp_33 ?_
  refine kc_Vv (wr := [(gc, .inr (3, [.ref me, .ref rg, .ref sm, .int (bI v_im), .int (bI v_ei), .int (bI v_ha), .int (bI v_hb), .int v_cy])), (rg, .inr (1, [.ref wa])), (wa, .inl (cI, 6, .inl b1)), (sm, .inr (2, [.ref rg]))]) (As := [.int (r3 + (1 : Int32)), .int (r5 >>> ((8 : Int32) &&& (31 : Int32)))]) (rest := []) (fun u9 => (kX3 cB cI gc me ba rg wa sm v_im v_ei v_ha v_hb v_cy (u9.1) (u9.2) b1)) ⟨hx, hb, hml, hown, hws⟩ hK hP hD hS hA hT (c_X0_write l D cB me ba H.size b6 b7 (r3 + (1 : Int32)) (r5 >>> ((8 : Int32) &&& (31 : Int32)))) (cwV 2 hws (gw_V mw_131 mw_132 mw_133 mw_14 mw_134) rfl rfl rfl hdX0_write ⟨Nat.le_of_ble_eq_true rfl, Nat.le_of_ble_eq_true rfl⟩) [1, 2] [0, 3, 4, 5] [0] [0, 4, 5, 1, 2, 3] rfl rfl rfl rfl (by decide) rfl (fun _ => rfl) rfl 1 rfl rfl rfl rfl hl.1 rfl (Nat.le_of_ble_eq_true rfl) dX3_storeSp_34 ⟨Nat.zero_le _, Nat.zero_le _⟩ (fun u9 H locs hw11 hP hD hS => ?_)
  obtain ⟨b9, b10⟩ := u9
  have hP : va_P D vwCl (kX3 cB cI gc me ba rg wa sm v_im v_ei v_ha v_hb v_cy b9 b10 b1) H := hP
  have hD : va_D A (kX3 cB cI gc me ba rg wa sm v_im v_ei v_ha v_hb v_cy b9 b10 b1) := hD
  have hf := hf.trans (kE2 hw11)
  rw [← hQ]
  exact W.vret hx hb hr (fun t ht hW => ⟨⟨(b9, b10, b1), rfl, hf.symm, by rw [ht]; exact hP, va_K.moved hW.alike hK, hD⟩, hS.F ht⟩) hS.2.2 dX3_storeSp_37
def fX3_holds (v_wd : Nat → Int32) (a1 : Int32) : Bool := (kU1 (((kIf (kEq (a1 &&& (1 : Int32)) (1 : Int32)) true false) : Bool)) (fun (z2 : Bool) => (kU1 (((kIf (kLe (2 : Int32) a1) (16 : Int32) (128 : Int32)) : Int32)) (fun (x5 : Int32) => (kU1 (fX1_flag v_wd x5) (fun (z9 : Bool) => (kIf (kEq (bI z9) (bI z2)) true false)))))))
def rmX3_holds : Room := { frames := 1, cells := 0, slots := 0, locals := 21 }
def wwX3_holds : List Cond := Cond.code yX3_holds cX3_holds 3 (some .boolean) :: wsL_law
theorem hdX3_holds : yX3_holds.cls = RX3 ∧ yX3_holds.cls ≠ "java/lang/invoke/MethodHandle" ∧ yX3_holds.cls ≠ "java/lang/invoke/VarHandle" ∧ (parseMethodDescriptor yX3_holds.desc).map (fun d => d.parameters.length) = some 1 := by decide +kernel
set_option maxHeartbeats 4000000 in
set_option maxRecDepth 100000 in
theorem c_X3_holds (l : Launch) (D : va_G) (cB : ClassId) (cI : ClassId) (gc me ba rg wa sm sz : Nat) (v_im : Bool) (v_ei : Bool) (v_ha : Bool) (v_hb : Bool) (v_cy : Int32) (v_by : Nat → Int32) (v_ct : Int32) (v_wd : Nat → Int32) (a1 : Int32)  : Met l yX3_holds wwX3_holds rmX3_holds (va_Pc [.ref gc, .int a1] (kp D (kX3 cB cI gc me ba rg wa sm v_im v_ei v_ha v_hb v_cy v_by v_ct v_wd) [(cB, .byte), (cI, .int)] sz)) (va_Qi (fun (r : Int32) (_ : Unit) => ∃ z9 : Bool, r = bI z9 ∧ z9 = fX3_holds v_wd a1) (fun _ t => kq D (kX3 cB cI gc me ba rg wa sm v_im v_ei v_ha v_hb v_cy v_by v_ct v_wd) [(cB, .byte), (cI, .int)] (va_A (kX3 cB cI gc me ba rg wa sm v_im v_ei v_ha v_hb v_cy v_by v_ct v_wd) sz) t) (va_A (kX3 cB cI gc me ba rg wa sm v_im v_ei v_ha v_hb v_cy v_by v_ct v_wd) sz)) 0 0 (va_A (kX3 cB cI gc me ba rg wa sm v_im v_ei v_ha v_hb v_cy v_by v_ct v_wd) sz) := by
  refine Met.ofW (cc := cX3_holds) (maxL := 3) (ret := (some .boolean)) (by decide) rfl ?_
  intro p e s m args below meth c s₁ B hml hv
  obtain ⟨rfl, hsz, hP, hK, hD0, hT⟩ := hv
  have hx := B.exec
  have hb := B.bytes
  have hr := B.returns
  have hts := atoms_spec (ws := wwX3_holds) B.pre
  have hws : ∀ w ∈ wsL_law, w.before _ s = true := fun w h => hts w (List.mem_cons_of_mem _ h)
  have hown : s.vm.findClass RX3 = some m.cls := findClass_of_methodNamed B.named
  have hlocks := B.notSynchronized
  subst hsz
  have hD := hD0.self (sz := s.heap.size)
  generalize hAe : va_A (kX3 cB cI gc me ba rg wa sm v_im v_ei v_ha v_hb v_cy v_by v_ct v_wd) s.heap.size = A at hD hT ⊢
  have hA : ∀ q : Nat, s.heap.size ≤ q → A q := fun q h => by rw [← hAe]; exact Or.inr h
  have hS : va_S A s.heap s.heap [] := va_S.rf
  have hl := lv_entry ([.ref gc, .int a1]) (n := 3) (Nat.le_of_ble_eq_true rfl)
  rw [lg_entry_eq]
  generalize (lg_sl ([.ref gc, .int a1]) ++ List.replicate (3 - (lg_sl ([.ref gc, .int a1])).length) Slot.unset).toArray = ls at hl ⊢
  have hl : lv_has ls 3 [(0, .ref gc), (1, .int a1)] := hl
  generalize hQ : MQ _ _ _ _ _ _ _ = Q
  obtain ⟨H, hHe⟩ : ∃ H : Heap, H = s.heap := ⟨_, rfl⟩
  obtain ⟨locs, hle⟩ : ∃ L : List Loc, L = [] := ⟨_, rfl⟩
  have hP : va_P D vwCl (kX3 cB cI gc me ba rg wa sm v_im v_ei v_ha v_hb v_cy v_by v_ct v_wd) H := by rw [hHe]; exact hP
  have hS : va_S A s.heap H locs := by rw [hHe, hle]; exact hS
  refine kw_start hHe.symm hle.symm ?_
  have hf : fX3_holds v_wd a1 = fX3_holds v_wd a1 := rfl
  refine lv_iload_n hx hb dX3_holds_0 rfl (lv_at hl 1 rfl) ?_
  refine lv_iconst (v := 1) hx hb dX3_holds_1 (by decide) ?_
  refine lv_iand hx hb dX3_holds_2 ?_
  refine lv_iconst (v := 1) hx hb dX3_holds_3 (by decide) ?_
  obtain ⟨TJ3, hTJ3⟩ : ∃ T9 : Bool, T9 = (kIf (kEq (a1 &&& (1 : Int32)) (1 : Int32)) true false) := ⟨_, rfl⟩
  have J3 : ∀ (z2 : Bool), z2 = TJ3 → ∀ (H : Heap) (locs : List Loc) (ls : Array Slot), lv_has ls 3 [(0, .ref gc), (1, .int a1)] → va_P D vwCl (kX3 cB cI gc me ba rg wa sm v_im v_ei v_ha v_hb v_cy v_by v_ct v_wd) H → va_D A (kX3 cB cI gc me ba rg wa sm v_im v_ei v_ha v_hb v_cy v_by v_ct v_wd) → va_S A s.heap H locs → W p l e (headSpec wwX3_holds rmX3_holds).room s m ([.ref gc, .int a1] : List Value).toArray below meth c H locs 0 0 Q (F0 m 12 ls [.int (bI z2)]) := by
    intro z2 eJ3 H locs ls hl hP hD hS
    have hf := hf.trans (kE1 (eJ3.trans hTJ3))
    refine lv_istore_n (lv' := [(2, .int (bI z2)), (0, .ref gc), (1, .int a1)]) hx hb dX3_holds_12 rfl hl (by decide) rfl (fun ls hl => ?_)
    refine lv_aload_n hx hb dX3_holds_13 rfl (lv_at hl 1 rfl) ?_
    refine va_get (D := D) (ci := 3) (v := .ref rg) (C := RX3) (T := TX3) (N := 8) hx hb hws inlX3 hown hK hP 0 rfl rfl 1 (by decide) (hws _ mw_20) (fun _ h9 => h9) rfl dX3_holds_14 ?_
    refine lv_iload_n hx hb dX3_holds_17 rfl (lv_at hl 2 rfl) ?_
    refine lv_iconst (v := 2) hx hb dX3_holds_18 (by decide) ?_
    obtain ⟨TJ6, hTJ6⟩ : ∃ T9 : Int32, T9 = (kIf (kLe (2 : Int32) a1) (16 : Int32) (128 : Int32)) := ⟨_, rfl⟩
    have J6 : ∀ (x5 : Int32), x5 = TJ6 → ∀ (H : Heap) (locs : List Loc) (ls : Array Slot), lv_has ls 3 [(2, .int (bI z2)), (0, .ref gc), (1, .int a1)] → va_P D vwCl (kX3 cB cI gc me ba rg wa sm v_im v_ei v_ha v_hb v_cy v_by v_ct v_wd) H → va_D A (kX3 cB cI gc me ba rg wa sm v_im v_ei v_ha v_hb v_cy v_by v_ct v_wd) → va_S A s.heap H locs → W p l e (headSpec wwX3_holds rmX3_holds).room s m ([.ref gc, .int a1] : List Value).toArray below meth c H locs 0 0 Q (F0 m 30 ls [.int x5, .ref rg]) := by
      intro x5 eJ6 H locs ls hl hP hD hS
      have hf := hf.trans (kE1 (eJ6.trans hTJ6))
      refine kc_Vi (wr := [(gc, .inr (3, [.ref me, .ref rg, .ref sm, .int (bI v_im), .int (bI v_ei), .int (bI v_ha), .int (bI v_hb), .int v_cy])), (me, .inr (0, [.ref ba, .int v_ct])), (ba, .inl (cB, 65536, .inl v_by)), (sm, .inr (2, [.ref rg]))]) (As := [.int x5]) (rest := []) (fun _ => (kX3 cB cI gc me ba rg wa sm v_im v_ei v_ha v_hb v_cy v_by v_ct v_wd)) ⟨hx, hb, hml, hown, hws⟩ hK hP hD hS hA hT (c_X1_flag l D cI rg wa H.size v_wd x5) (cwV 1 hws (gw_V mw_243 mw_204 mw_205 mw_32 mw_206) rfl rfl rfl hdX1_flag ⟨Nat.le_of_ble_eq_true rfl, Nat.le_of_ble_eq_true rfl⟩) [3, 4] [0, 1, 2, 5] [1] [0, 1, 2, 4, 5, 3] rfl rfl rfl rfl (by decide) rfl (fun _ => rfl) rfl 3 rfl rfl rfl rfl hl.1 rfl (Nat.le_of_ble_eq_true rfl) dX3_holds_30 ⟨Nat.zero_le _, Nat.zero_le _⟩ (fun r8 _ H locs hw7 hP hD hS => ?_)
      obtain ⟨z9, rfl, hw7⟩ := hw7
      have hP : va_P D vwCl (kX3 cB cI gc me ba rg wa sm v_im v_ei v_ha v_hb v_cy v_by v_ct v_wd) H := hP
      have hD : va_D A (kX3 cB cI gc me ba rg wa sm v_im v_ei v_ha v_hb v_cy v_by v_ct v_wd) := hD
      have hf := hf.trans (kE1 hw7)
      refine lv_iload_n hx hb dX3_holds_33 rfl (lv_at hl 0 rfl) ?_
      refine lv_icmp_ne (tgt := 41) hx hb dX3_holds_34 (by decide) (fun c10 => ?_) (fun c10 => ?_)
      · have hf := hf.trans (kf_eq c10)
        refine lv_iconst (v := 0) hx hb dX3_holds_41 (by decide) ?_
        rw [← hQ]
        exact W.zret (v := bI false) (ty := .boolean) hx hb hr (bI_nar _) (fun t ht hW => ⟨⟨bI false, (), rfl, ⟨false, rfl, hf.symm⟩, by rw [ht]; exact hP, va_K.moved hW.alike hK, hD⟩, hS.F ht⟩) hS.2.2 dX3_holds_42
      · have hf := hf.trans (kt_eq c10)
        refine lv_iconst (v := 1) hx hb dX3_holds_37 (by decide) ?_
        refine lv_goto (tgt := 42) hx hb dX3_holds_38 (by decide) ?_
        rw [← hQ]
        exact W.zret (v := bI true) (ty := .boolean) hx hb hr (bI_nar _) (fun t ht hW => ⟨⟨bI true, (), rfl, ⟨true, rfl, hf.symm⟩, by rw [ht]; exact hP, va_K.moved hW.alike hK, hD⟩, hS.F ht⟩) hS.2.2 dX3_holds_42
    have hf := hTJ6
    refine lv_icmp_ge (tgt := 28) hx hb dX3_holds_19 (by decide) (fun c4 => ?_) (fun c4 => ?_)
    · have hf := hf.trans (kt_le c4)
      refine lv_bipush (v := 16) hx hb dX3_holds_28 (by decide) ?_
      exact J6 (16 : Int32) hf.symm H locs ls (lv_sub hl [0, 1, 2] rfl) hP hD hS
    · have hf := hf.trans (kf_le c4)
      refine lv_sipush (v := 128) hx hb dX3_holds_22 (by decide) ?_
      refine lv_goto (tgt := 30) hx hb dX3_holds_25 (by decide) ?_
      exact J6 (128 : Int32) hf.symm H locs ls (lv_sub hl [0, 1, 2] rfl) hP hD hS
  have hf := hTJ3
  refine lv_icmp_ne (tgt := 11) hx hb dX3_holds_4 (by decide) (fun c1 => ?_) (fun c1 => ?_)
  · have hf := hf.trans (kf_eq c1)
    refine lv_iconst (v := 0) hx hb dX3_holds_11 (by decide) ?_
    exact J3 false hf.symm H locs ls (lv_sub hl [0, 1] rfl) hP hD hS
  · have hf := hf.trans (kt_eq c1)
    refine lv_iconst (v := 1) hx hb dX3_holds_7 (by decide) ?_
    refine lv_goto (tgt := 12) hx hb dX3_holds_8 (by decide) ?_
    exact J3 true hf.symm H locs ls (lv_sub hl [0, 1] rfl) hP hD hS
def fX3_jumpRelativeIf (v_by : Nat → Int32) (v_wd : Nat → Int32) (a1 : Bool) : Int32 × (Nat → Int32) := (kU2 (fX3_fetch v_by v_wd) (fun (r3 : Int32) (b1 : Nat → Int32) => (kU1 (r3.toInt8.toInt32) (fun (x4 : Int32) => (kIf (kEq (bI a1) (0 : Int32)) ((0 : Int32), b1) (kU1 (fX1_word b1 (5 : Int32)) (fun (r7 : Int32) => (kU2 (fX1_setWord b1 (5 : Int32) (r7 + x4)) (fun (z11 : Bool) (b8 : Nat → Int32) => ((1 : Int32), b8))))))))))
def rmX3_jumpRelativeIf : Room := { frames := 2, cells := 0, slots := 0, locals := 43 }
def wwX3_jumpRelativeIf : List Cond := Cond.code yX3_jumpRelativeIf cX3_jumpRelativeIf 3 (some .int) :: wsL_law
theorem hdX3_jumpRelativeIf : yX3_jumpRelativeIf.cls = RX3 ∧ yX3_jumpRelativeIf.cls ≠ "java/lang/invoke/MethodHandle" ∧ yX3_jumpRelativeIf.cls ≠ "java/lang/invoke/VarHandle" ∧ (parseMethodDescriptor yX3_jumpRelativeIf.desc).map (fun d => d.parameters.length) = some 1 := by decide +kernel
set_option maxHeartbeats 4000000 in
set_option maxRecDepth 100000 in
theorem c_X3_jumpRelativeIf (l : Launch) (D : va_G) (cB : ClassId) (cI : ClassId) (gc me ba rg wa sm sz : Nat) (v_im : Bool) (v_ei : Bool) (v_ha : Bool) (v_hb : Bool) (v_cy : Int32) (v_by : Nat → Int32) (v_ct : Int32) (v_wd : Nat → Int32) (a1 : Bool)  : Met l yX3_jumpRelativeIf wwX3_jumpRelativeIf rmX3_jumpRelativeIf (va_Pc [.ref gc, .int (bI a1)] (kp D (kX3 cB cI gc me ba rg wa sm v_im v_ei v_ha v_hb v_cy v_by v_ct v_wd) [(cB, .byte), (cI, .int)] sz)) (va_Qi (fun (r : Int32) (u9 : (Nat → Int32)) => (r, u9) = fX3_jumpRelativeIf v_by v_wd a1) (fun u9 t => kq D (kX3 cB cI gc me ba rg wa sm v_im v_ei v_ha v_hb v_cy v_by v_ct u9) [(cB, .byte), (cI, .int)] (va_A (kX3 cB cI gc me ba rg wa sm v_im v_ei v_ha v_hb v_cy v_by v_ct v_wd) sz) t) (va_A (kX3 cB cI gc me ba rg wa sm v_im v_ei v_ha v_hb v_cy v_by v_ct v_wd) sz)) 0 0 (va_A (kX3 cB cI gc me ba rg wa sm v_im v_ei v_ha v_hb v_cy v_by v_ct v_wd) sz) := by
  refine Met.ofW (cc := cX3_jumpRelativeIf) (maxL := 3) (ret := (some .int)) (by decide) rfl ?_
  intro p e s m args below meth c s₁ B hml hv
  obtain ⟨rfl, hsz, hP, hK, hD0, hT⟩ := hv
  have hx := B.exec
  have hb := B.bytes
  have hr := B.returns
  have hts := atoms_spec (ws := wwX3_jumpRelativeIf) B.pre
  have hws : ∀ w ∈ wsL_law, w.before _ s = true := fun w h => hts w (List.mem_cons_of_mem _ h)
  have hown : s.vm.findClass RX3 = some m.cls := findClass_of_methodNamed B.named
  have hlocks := B.notSynchronized
  subst hsz
  have hD := hD0.self (sz := s.heap.size)
  generalize hAe : va_A (kX3 cB cI gc me ba rg wa sm v_im v_ei v_ha v_hb v_cy v_by v_ct v_wd) s.heap.size = A at hD hT ⊢
  have hA : ∀ q : Nat, s.heap.size ≤ q → A q := fun q h => by rw [← hAe]; exact Or.inr h
  have hS : va_S A s.heap s.heap [] := va_S.rf
  have hl := lv_entry ([.ref gc, .int (bI a1)]) (n := 3) (Nat.le_of_ble_eq_true rfl)
  rw [lg_entry_eq]
  generalize (lg_sl ([.ref gc, .int (bI a1)]) ++ List.replicate (3 - (lg_sl ([.ref gc, .int (bI a1)])).length) Slot.unset).toArray = ls at hl ⊢
  have hl : lv_has ls 3 [(0, .ref gc), (1, .int (bI a1))] := hl
  generalize hQ : MQ _ _ _ _ _ _ _ = Q
  obtain ⟨H, hHe⟩ : ∃ H : Heap, H = s.heap := ⟨_, rfl⟩
  obtain ⟨locs, hle⟩ : ∃ L : List Loc, L = [] := ⟨_, rfl⟩
  have hP : va_P D vwCl (kX3 cB cI gc me ba rg wa sm v_im v_ei v_ha v_hb v_cy v_by v_ct v_wd) H := by rw [hHe]; exact hP
  have hS : va_S A s.heap H locs := by rw [hHe, hle]; exact hS
  refine kw_start hHe.symm hle.symm ?_
  have hf : fX3_jumpRelativeIf v_by v_wd a1 = fX3_jumpRelativeIf v_by v_wd a1 := rfl
  refine lv_aload_n hx hb dX3_jumpRelativeIf_0 rfl (lv_at hl 0 rfl) ?_
  refine kc_Vi (wr := []) (As := []) (rest := []) (fun u9 => (kX3 cB cI gc me ba rg wa sm v_im v_ei v_ha v_hb v_cy v_by v_ct u9)) ⟨hx, hb, hml, hown, hws⟩ hK hP hD hS hA hT (c_X3_fetch l D cB cI gc me ba rg wa sm H.size v_im v_ei v_ha v_hb v_cy v_by v_ct v_wd ) (cwV 0 hws (gw_V mw_181 mw_182 mw_183 mw_2 mw_184) rfl rfl rfl hdX3_fetch ⟨Nat.le_of_ble_eq_true rfl, Nat.le_of_ble_eq_true rfl⟩) [0, 1, 2, 3, 4, 5] [] [0, 1] [0, 1, 2, 3, 4, 5] rfl rfl rfl rfl (by decide) rfl (fun _ => rfl) rfl 0 rfl rfl rfl rfl hl.1 rfl (Nat.le_of_ble_eq_true rfl) dX3_jumpRelativeIf_1 ⟨Nat.zero_le _, Nat.zero_le _⟩ (fun r3 b1 H locs hw2 hP hD hS => ?_)
  have hP : va_P D vwCl (kX3 cB cI gc me ba rg wa sm v_im v_ei v_ha v_hb v_cy v_by v_ct b1) H := hP
  have hD : va_D A (kX3 cB cI gc me ba rg wa sm v_im v_ei v_ha v_hb v_cy v_by v_ct b1) := hD
  have hf := hf.trans (kE2 hw2)
  refine lv_i2b (v := r3.toInt8.toInt32) hx hb dX3_jumpRelativeIf_4 rfl ?_
  refine lv_topi (fun x4 ex4 => ?_)
  have hf := hf.trans (kE1 ex4)
  refine lv_istore_n (lv' := [(2, .int x4), (0, .ref gc), (1, .int (bI a1))]) hx hb dX3_jumpRelativeIf_5 rfl hl (by decide) rfl (fun ls hl => ?_)
  refine lv_iload_n hx hb dX3_jumpRelativeIf_6 rfl (lv_at hl 2 rfl) ?_
  refine lv_if_ne (tgt := 12) hx hb dX3_jumpRelativeIf_7 (by decide) (fun c5 => ?_) (fun c5 => ?_)
  · have hf := hf.trans (kf_eq c5)
    refine lv_aload_n hx hb dX3_jumpRelativeIf_12 rfl (lv_at hl 1 rfl) ?_
    refine va_get (D := D) (ci := 3) (v := .ref rg) (C := RX3) (T := TX3) (N := 8) hx hb hws inlX3 hown hK hP 0 rfl rfl 1 (by decide) (hws _ mw_20) (fun _ h9 => h9) rfl dX3_jumpRelativeIf_13 ?_
    refine lv_iconst (v := 5) hx hb dX3_jumpRelativeIf_16 (by decide) ?_
    refine lv_aload_n hx hb dX3_jumpRelativeIf_17 rfl (lv_at hl 1 rfl) ?_
    refine va_get (D := D) (ci := 3) (v := .ref rg) (C := RX3) (T := TX3) (N := 8) hx hb hws inlX3 hown hK hP 0 rfl rfl 1 (by decide) (hws _ mw_20) (fun _ h9 => h9) rfl dX3_jumpRelativeIf_18 ?_
    refine lv_iconst (v := 5) hx hb dX3_jumpRelativeIf_21 (by decide) ?_
    refine kc_Vi (wr := [(gc, .inr (3, [.ref me, .ref rg, .ref sm, .int (bI v_im), .int (bI v_ei), .int (bI v_ha), .int (bI v_hb), .int v_cy])), (me, .inr (0, [.ref ba, .int v_ct])), (ba, .inl (cB, 65536, .inl v_by)), (sm, .inr (2, [.ref rg]))]) (As := [.int (5 : Int32)]) (rest := [.int (5 : Int32), .ref rg]) (fun _ => (kX3 cB cI gc me ba rg wa sm v_im v_ei v_ha v_hb v_cy v_by v_ct b1)) ⟨hx, hb, hml, hown, hws⟩ hK hP hD hS hA hT (c_X1_word l D cI rg wa H.size b1 (5 : Int32)) (cwV 1 hws (gw_V mw_123 mw_124 mw_125 mw_32 mw_126) rfl rfl rfl hdX1_word ⟨Nat.le_of_ble_eq_true rfl, Nat.le_of_ble_eq_true rfl⟩) [3, 4] [0, 1, 2, 5] [1] [0, 1, 2, 4, 5, 3] rfl rfl rfl rfl (by decide) rfl (fun _ => rfl) rfl 3 rfl rfl rfl rfl hl.1 rfl (Nat.le_of_ble_eq_true rfl) dX3_jumpRelativeIf_22 ⟨Nat.zero_le _, Nat.zero_le _⟩ (fun r7 _ H locs hw6 hP hD hS => ?_)
    have hP : va_P D vwCl (kX3 cB cI gc me ba rg wa sm v_im v_ei v_ha v_hb v_cy v_by v_ct b1) H := hP
    have hD : va_D A (kX3 cB cI gc me ba rg wa sm v_im v_ei v_ha v_hb v_cy v_by v_ct b1) := hD
    have hf := hf.trans (kE1 hw6)
    refine lv_iload_n hx hb dX3_jumpRelativeIf_25 rfl (lv_at hl 0 rfl) ?_
    refine lv_iadd hx hb dX3_jumpRelativeIf_26 ?_
    refine kc_Vi (wr := [(gc, .inr (3, [.ref me, .ref rg, .ref sm, .int (bI v_im), .int (bI v_ei), .int (bI v_ha), .int (bI v_hb), .int v_cy])), (me, .inr (0, [.ref ba, .int v_ct])), (ba, .inl (cB, 65536, .inl v_by)), (sm, .inr (2, [.ref rg]))]) (As := [.int (5 : Int32), .int (r7 + x4)]) (rest := []) (fun u9 => (kX3 cB cI gc me ba rg wa sm v_im v_ei v_ha v_hb v_cy v_by v_ct u9)) ⟨hx, hb, hml, hown, hws⟩ hK hP hD hS hA hT (c_X1_setWord l D cI rg wa H.size b1 (5 : Int32) (r7 + x4)) (cwV 2 hws (gw_V mw_137 mw_138 mw_139 mw_32 mw_140) rfl rfl rfl hdX1_setWord ⟨Nat.le_of_ble_eq_true rfl, Nat.le_of_ble_eq_true rfl⟩) [3, 4] [0, 1, 2, 5] [1] [0, 1, 2, 4, 5, 3] rfl rfl rfl rfl (by decide) rfl (fun _ => rfl) rfl 3 rfl rfl rfl rfl hl.1 rfl (Nat.le_of_ble_eq_true rfl) dX3_jumpRelativeIf_27 ⟨Nat.zero_le _, Nat.zero_le _⟩ (fun r10 b8 H locs hw9 hP hD hS => ?_)
    obtain ⟨z11, rfl, hw9⟩ := hw9
    have hP : va_P D vwCl (kX3 cB cI gc me ba rg wa sm v_im v_ei v_ha v_hb v_cy v_by v_ct b8) H := hP
    have hD : va_D A (kX3 cB cI gc me ba rg wa sm v_im v_ei v_ha v_hb v_cy v_by v_ct b8) := hD
    have hf := hf.trans (kE2 hw9)
    refine lv_pop hx hb dX3_jumpRelativeIf_30 rfl ?_
    refine lv_iconst (v := 1) hx hb dX3_jumpRelativeIf_31 (by decide) ?_
    rw [← hQ]
    exact W.iret (v := (1 : Int32)) hx hb hr (fun t ht hW => ⟨⟨(1 : Int32), b8, rfl, hf.symm, by rw [ht]; exact hP, va_K.moved hW.alike hK, hD⟩, hS.F ht⟩) hS.2.2 dX3_jumpRelativeIf_32
  · have hf := hf.trans (kt_eq c5)
    refine lv_iconst (v := 0) hx hb dX3_jumpRelativeIf_10 (by decide) ?_
    rw [← hQ]
    exact W.iret (v := (0 : Int32)) hx hb hr (fun t ht hW => ⟨⟨(0 : Int32), b1, rfl, hf.symm, by rw [ht]; exact hP, va_K.moved hW.alike hK, hD⟩, hS.F ht⟩) hS.2.2 dX3_jumpRelativeIf_11
def fX3_loadOrAddWord (v_by : Nat → Int32) (v_wd : Nat → Int32) (a1 : Int32) : (Nat → Int32) := (kU1 (((1 : Int32) + (a1 >>> ((1 : Int32) &&& (31 : Int32))))) (fun (x1 : Int32) => (kIf (kEq (a1 &&& (1 : Int32)) (0 : Int32)) (kU2 (fX3_fetchWord v_by v_wd) (fun (r9 : Int32) (b7 : Nat → Int32) => (kU2 (fX1_setWord b7 x1 r9) (fun (z13 : Bool) (b10 : Nat → Int32) => b10)))) (kU1 (fX1_word v_wd x1) (fun (r4 : Int32) => (kU1 (fX2_addToHl v_wd r4) (fun (b5 : Nat → Int32) => b5)))))))
def rmX3_loadOrAddWord : Room := { frames := 2, cells := 0, slots := 0, locals := 48 }
def wwX3_loadOrAddWord : List Cond := Cond.code yX3_loadOrAddWord cX3_loadOrAddWord 3 none :: wsL_law
theorem hdX3_loadOrAddWord : yX3_loadOrAddWord.cls = RX3 ∧ yX3_loadOrAddWord.cls ≠ "java/lang/invoke/MethodHandle" ∧ yX3_loadOrAddWord.cls ≠ "java/lang/invoke/VarHandle" ∧ (parseMethodDescriptor yX3_loadOrAddWord.desc).map (fun d => d.parameters.length) = some 1 := by decide +kernel
set_option maxHeartbeats 4000000 in
set_option maxRecDepth 100000 in
theorem c_X3_loadOrAddWord (l : Launch) (D : va_G) (cB : ClassId) (cI : ClassId) (gc me ba rg wa sm sz : Nat) (v_im : Bool) (v_ei : Bool) (v_ha : Bool) (v_hb : Bool) (v_cy : Int32) (v_by : Nat → Int32) (v_ct : Int32) (v_wd : Nat → Int32) (a1 : Int32)  : Met l yX3_loadOrAddWord wwX3_loadOrAddWord rmX3_loadOrAddWord (va_Pc [.ref gc, .int a1] (kp D (kX3 cB cI gc me ba rg wa sm v_im v_ei v_ha v_hb v_cy v_by v_ct v_wd) [(cB, .byte), (cI, .int)] sz)) (va_Qv (fun (u9 : (Nat → Int32)) => u9 = fX3_loadOrAddWord v_by v_wd a1) (fun u9 t => kq D (kX3 cB cI gc me ba rg wa sm v_im v_ei v_ha v_hb v_cy v_by v_ct u9) [(cB, .byte), (cI, .int)] (va_A (kX3 cB cI gc me ba rg wa sm v_im v_ei v_ha v_hb v_cy v_by v_ct v_wd) sz) t) (va_A (kX3 cB cI gc me ba rg wa sm v_im v_ei v_ha v_hb v_cy v_by v_ct v_wd) sz)) 0 0 (va_A (kX3 cB cI gc me ba rg wa sm v_im v_ei v_ha v_hb v_cy v_by v_ct v_wd) sz) := by
  refine Met.ofW (cc := cX3_loadOrAddWord) (maxL := 3) (ret := none) (by decide) rfl ?_
  intro p e s m args below meth c s₁ B hml hv
  obtain ⟨rfl, hsz, hP, hK, hD0, hT⟩ := hv
  have hx := B.exec
  have hb := B.bytes
  have hr := B.returns
  have hts := atoms_spec (ws := wwX3_loadOrAddWord) B.pre
  have hws : ∀ w ∈ wsL_law, w.before _ s = true := fun w h => hts w (List.mem_cons_of_mem _ h)
  have hown : s.vm.findClass RX3 = some m.cls := findClass_of_methodNamed B.named
  have hlocks := B.notSynchronized
  subst hsz
  have hD := hD0.self (sz := s.heap.size)
  generalize hAe : va_A (kX3 cB cI gc me ba rg wa sm v_im v_ei v_ha v_hb v_cy v_by v_ct v_wd) s.heap.size = A at hD hT ⊢
  have hA : ∀ q : Nat, s.heap.size ≤ q → A q := fun q h => by rw [← hAe]; exact Or.inr h
  have hS : va_S A s.heap s.heap [] := va_S.rf
  have hl := lv_entry ([.ref gc, .int a1]) (n := 3) (Nat.le_of_ble_eq_true rfl)
  rw [lg_entry_eq]
  generalize (lg_sl ([.ref gc, .int a1]) ++ List.replicate (3 - (lg_sl ([.ref gc, .int a1])).length) Slot.unset).toArray = ls at hl ⊢
  have hl : lv_has ls 3 [(0, .ref gc), (1, .int a1)] := hl
  generalize hQ : MQ _ _ _ _ _ _ _ = Q
  obtain ⟨H, hHe⟩ : ∃ H : Heap, H = s.heap := ⟨_, rfl⟩
  obtain ⟨locs, hle⟩ : ∃ L : List Loc, L = [] := ⟨_, rfl⟩
  have hP : va_P D vwCl (kX3 cB cI gc me ba rg wa sm v_im v_ei v_ha v_hb v_cy v_by v_ct v_wd) H := by rw [hHe]; exact hP
  have hS : va_S A s.heap H locs := by rw [hHe, hle]; exact hS
  refine kw_start hHe.symm hle.symm ?_
  have hf : fX3_loadOrAddWord v_by v_wd a1 = fX3_loadOrAddWord v_by v_wd a1 := rfl
  refine lv_iconst (v := 1) hx hb dX3_loadOrAddWord_0 (by decide) ?_
  refine lv_iload_n hx hb dX3_loadOrAddWord_1 rfl (lv_at hl 1 rfl) ?_
  refine lv_iconst (v := 1) hx hb dX3_loadOrAddWord_2 (by decide) ?_
  refine lv_ishr hx hb dX3_loadOrAddWord_3 ?_
  refine lv_iadd hx hb dX3_loadOrAddWord_4 ?_
  refine lv_topi (fun x1 ex1 => ?_)
  have hf := hf.trans (kE1 ex1)
  refine lv_istore_n (lv' := [(2, .int x1), (0, .ref gc), (1, .int a1)]) hx hb dX3_loadOrAddWord_5 rfl hl (by decide) rfl (fun ls hl => ?_)
  refine lv_iload_n hx hb dX3_loadOrAddWord_6 rfl (lv_at hl 2 rfl) ?_
  refine lv_iconst (v := 1) hx hb dX3_loadOrAddWord_7 (by decide) ?_
  refine lv_iand hx hb dX3_loadOrAddWord_8 ?_
  refine lv_if_ne (tgt := 28) hx hb dX3_loadOrAddWord_9 (by decide) (fun c2 => ?_) (fun c2 => ?_)
  · have hf := hf.trans (kf_eq c2)
    refine lv_aload_n hx hb dX3_loadOrAddWord_28 rfl (lv_at hl 1 rfl) ?_
    refine va_get (D := D) (ci := 3) (v := .ref sm) (C := RX3) (T := TX3) (N := 8) hx hb hws inlX3 hown hK hP 0 rfl rfl 2 (by decide) (hws _ mw_19) (fun _ h9 => h9) rfl dX3_loadOrAddWord_29 ?_
    refine lv_aload_n hx hb dX3_loadOrAddWord_32 rfl (lv_at hl 1 rfl) ?_
    refine va_get (D := D) (ci := 3) (v := .ref rg) (C := RX3) (T := TX3) (N := 8) hx hb hws inlX3 hown hK hP 0 rfl rfl 1 (by decide) (hws _ mw_20) (fun _ h9 => h9) rfl dX3_loadOrAddWord_33 ?_
    refine lv_iload_n hx hb dX3_loadOrAddWord_36 rfl (lv_at hl 0 rfl) ?_
    refine kc_Vi (wr := [(gc, .inr (3, [.ref me, .ref rg, .ref sm, .int (bI v_im), .int (bI v_ei), .int (bI v_ha), .int (bI v_hb), .int v_cy])), (me, .inr (0, [.ref ba, .int v_ct])), (ba, .inl (cB, 65536, .inl v_by)), (sm, .inr (2, [.ref rg]))]) (As := [.int x1]) (rest := [.ref sm]) (fun _ => (kX3 cB cI gc me ba rg wa sm v_im v_ei v_ha v_hb v_cy v_by v_ct v_wd)) ⟨hx, hb, hml, hown, hws⟩ hK hP hD hS hA hT (c_X1_word l D cI rg wa H.size v_wd x1) (cwV 1 hws (gw_V mw_123 mw_124 mw_125 mw_32 mw_126) rfl rfl rfl hdX1_word ⟨Nat.le_of_ble_eq_true rfl, Nat.le_of_ble_eq_true rfl⟩) [3, 4] [0, 1, 2, 5] [1] [0, 1, 2, 4, 5, 3] rfl rfl rfl rfl (by decide) rfl (fun _ => rfl) rfl 3 rfl rfl rfl rfl hl.1 rfl (Nat.le_of_ble_eq_true rfl) dX3_loadOrAddWord_37 ⟨Nat.zero_le _, Nat.zero_le _⟩ (fun r4 _ H locs hw3 hP hD hS => ?_)
    have hP : va_P D vwCl (kX3 cB cI gc me ba rg wa sm v_im v_ei v_ha v_hb v_cy v_by v_ct v_wd) H := hP
    have hD : va_D A (kX3 cB cI gc me ba rg wa sm v_im v_ei v_ha v_hb v_cy v_by v_ct v_wd) := hD
    have hf := hf.trans (kE1 hw3)
    refine kc_Vv (wr := [(gc, .inr (3, [.ref me, .ref rg, .ref sm, .int (bI v_im), .int (bI v_ei), .int (bI v_ha), .int (bI v_hb), .int v_cy])), (me, .inr (0, [.ref ba, .int v_ct])), (ba, .inl (cB, 65536, .inl v_by))]) (As := [.int r4]) (rest := []) (fun u9 => (kX3 cB cI gc me ba rg wa sm v_im v_ei v_ha v_hb v_cy v_by v_ct u9)) ⟨hx, hb, hml, hown, hws⟩ hK hP hD hS hA hT (c_X2_addToHl l D cI sm rg wa H.size v_wd r4) (cwV 1 hws (gw_V mw_252 mw_253 mw_254 mw_18 mw_255) rfl rfl rfl hdX2_addToHl ⟨Nat.le_of_ble_eq_true rfl, Nat.le_of_ble_eq_true rfl⟩) [5, 3, 4] [0, 1, 2] [1] [0, 1, 2, 4, 5, 3] rfl rfl rfl rfl (by decide) rfl (fun _ => rfl) rfl 5 rfl rfl rfl rfl hl.1 rfl (Nat.le_of_ble_eq_true rfl) dX3_loadOrAddWord_40 ⟨Nat.zero_le _, Nat.zero_le _⟩ (fun b5 H locs hw6 hP hD hS => ?_)
    have hP : va_P D vwCl (kX3 cB cI gc me ba rg wa sm v_im v_ei v_ha v_hb v_cy v_by v_ct b5) H := hP
    have hD : va_D A (kX3 cB cI gc me ba rg wa sm v_im v_ei v_ha v_hb v_cy v_by v_ct b5) := hD
    have hf := hf.trans (kE1 hw6)
    rw [← hQ]
    exact W.vret hx hb hr (fun t ht hW => ⟨⟨b5, rfl, hf.symm, by rw [ht]; exact hP, va_K.moved hW.alike hK, hD⟩, hS.F ht⟩) hS.2.2 dX3_loadOrAddWord_43
  · have hf := hf.trans (kt_eq c2)
    refine lv_aload_n hx hb dX3_loadOrAddWord_12 rfl (lv_at hl 1 rfl) ?_
    refine va_get (D := D) (ci := 3) (v := .ref rg) (C := RX3) (T := TX3) (N := 8) hx hb hws inlX3 hown hK hP 0 rfl rfl 1 (by decide) (hws _ mw_20) (fun _ h9 => h9) rfl dX3_loadOrAddWord_13 ?_
    refine lv_iload_n hx hb dX3_loadOrAddWord_16 rfl (lv_at hl 0 rfl) ?_
    refine lv_aload_n hx hb dX3_loadOrAddWord_17 rfl (lv_at hl 1 rfl) ?_
    refine kc_Vi (wr := []) (As := []) (rest := [.int x1, .ref rg]) (fun u9 => (kX3 cB cI gc me ba rg wa sm v_im v_ei v_ha v_hb v_cy v_by v_ct u9)) ⟨hx, hb, hml, hown, hws⟩ hK hP hD hS hA hT (c_X3_fetchWord l D cB cI gc me ba rg wa sm H.size v_im v_ei v_ha v_hb v_cy v_by v_ct v_wd ) (cwV 0 hws (gw_V mw_235 mw_236 mw_237 mw_2 mw_238) rfl rfl rfl hdX3_fetchWord ⟨Nat.le_of_ble_eq_true rfl, Nat.le_of_ble_eq_true rfl⟩) [0, 1, 2, 3, 4, 5] [] [0, 1] [0, 1, 2, 3, 4, 5] rfl rfl rfl rfl (by decide) rfl (fun _ => rfl) rfl 0 rfl rfl rfl rfl hl.1 rfl (Nat.le_of_ble_eq_true rfl) dX3_loadOrAddWord_18 ⟨Nat.zero_le _, Nat.zero_le _⟩ (fun r9 b7 H locs hw8 hP hD hS => ?_)
    have hP : va_P D vwCl (kX3 cB cI gc me ba rg wa sm v_im v_ei v_ha v_hb v_cy v_by v_ct b7) H := hP
    have hD : va_D A (kX3 cB cI gc me ba rg wa sm v_im v_ei v_ha v_hb v_cy v_by v_ct b7) := hD
    have hf := hf.trans (kE2 hw8)
    refine kc_Vi (wr := [(gc, .inr (3, [.ref me, .ref rg, .ref sm, .int (bI v_im), .int (bI v_ei), .int (bI v_ha), .int (bI v_hb), .int v_cy])), (me, .inr (0, [.ref ba, .int v_ct])), (ba, .inl (cB, 65536, .inl v_by)), (sm, .inr (2, [.ref rg]))]) (As := [.int x1, .int r9]) (rest := []) (fun u9 => (kX3 cB cI gc me ba rg wa sm v_im v_ei v_ha v_hb v_cy v_by v_ct u9)) ⟨hx, hb, hml, hown, hws⟩ hK hP hD hS hA hT (c_X1_setWord l D cI rg wa H.size b7 x1 r9) (cwV 2 hws (gw_V mw_137 mw_138 mw_139 mw_32 mw_140) rfl rfl rfl hdX1_setWord ⟨Nat.le_of_ble_eq_true rfl, Nat.le_of_ble_eq_true rfl⟩) [3, 4] [0, 1, 2, 5] [1] [0, 1, 2, 4, 5, 3] rfl rfl rfl rfl (by decide) rfl (fun _ => rfl) rfl 3 rfl rfl rfl rfl hl.1 rfl (Nat.le_of_ble_eq_true rfl) dX3_loadOrAddWord_21 ⟨Nat.zero_le _, Nat.zero_le _⟩ (fun r12 b10 H locs hw11 hP hD hS => ?_)
    obtain ⟨z13, rfl, hw11⟩ := hw11
    have hP : va_P D vwCl (kX3 cB cI gc me ba rg wa sm v_im v_ei v_ha v_hb v_cy v_by v_ct b10) H := hP
    have hD : va_D A (kX3 cB cI gc me ba rg wa sm v_im v_ei v_ha v_hb v_cy v_by v_ct b10) := hD
    have hf := hf.trans (kE2 hw11)
    refine lv_pop hx hb dX3_loadOrAddWord_24 rfl ?_
    refine lv_goto (tgt := 43) hx hb dX3_loadOrAddWord_25 (by decide) ?_
    rw [← hQ]
    exact W.vret hx hb hr (fun t ht hW => ⟨⟨b10, rfl, hf.symm, by rw [ht]; exact hP, va_K.moved hW.alike hK, hD⟩, hS.F ht⟩) hS.2.2 dX3_loadOrAddWord_43
def fX3_loadByPair (v_by : Nat → Int32) (v_ct : Int32) (v_wd : Nat → Int32) (a1 : Int32) : (Nat → Int32) × Int32 × (Nat → Int32) := (kU1 ((if (3 : Int32) < ((1 : Int32) + (a1 >>> ((1 : Int32) &&& (31 : Int32)))) then (3 : Int32) else ((1 : Int32) + (a1 >>> ((1 : Int32) &&& (31 : Int32)))))) (fun (x1 : Int32) => (kU1 (fX1_word v_wd x1) (fun (r3 : Int32) => (kU3 (((kIf (kEq (a1 &&& (1 : Int32)) (0 : Int32)) (kU1 (fX1_a v_wd) (fun (r10 : Int32) => (kU2 (fX0_write v_by v_ct r3 r10) (fun (b11 : Nat → Int32) (b12 : Int32) => (b11, b12, v_wd))))) (kU1 (fX0_at v_by r3) (fun (r6 : Int32) => (kU1 (fX1_setA v_wd r6) (fun (b7 : Nat → Int32) => (v_by, v_ct, b7)))))) : (Nat → Int32) × Int32 × (Nat → Int32))) (fun (b14 : Nat → Int32) (b15 : Int32) (b16 : Nat → Int32) => (kIf (kLt a1 (4 : Int32)) (b14, b15, b16) (kU1 (((kIf (kLe (6 : Int32) a1) (r3 - (1 : Int32)) (r3 + (1 : Int32))) : Int32)) (fun (x20 : Int32) => (kU2 (fX1_setWord b16 (3 : Int32) x20) (fun (z25 : Bool) (b22 : Nat → Int32) => (b14, b15, b22))))))))))))
def rmX3_loadByPair : Room := { frames := 1, cells := 0, slots := 0, locals := 24 }
def wwX3_loadByPair : List Cond := Cond.code yX3_loadByPair cX3_loadByPair 4 none :: wsL_law
theorem hdX3_loadByPair : yX3_loadByPair.cls = RX3 ∧ yX3_loadByPair.cls ≠ "java/lang/invoke/MethodHandle" ∧ yX3_loadByPair.cls ≠ "java/lang/invoke/VarHandle" ∧ (parseMethodDescriptor yX3_loadByPair.desc).map (fun d => d.parameters.length) = some 1 := by decide +kernel
set_option maxHeartbeats 4000000 in
set_option maxRecDepth 100000 in
theorem c_X3_loadByPair (l : Launch) (D : va_G) (cB : ClassId) (cI : ClassId) (gc me ba rg wa sm sz : Nat) (v_im : Bool) (v_ei : Bool) (v_ha : Bool) (v_hb : Bool) (v_cy : Int32) (v_by : Nat → Int32) (v_ct : Int32) (v_wd : Nat → Int32) (a1 : Int32)  : Met l yX3_loadByPair wwX3_loadByPair rmX3_loadByPair (va_Pc [.ref gc, .int a1] (kp D (kX3 cB cI gc me ba rg wa sm v_im v_ei v_ha v_hb v_cy v_by v_ct v_wd) [(cB, .byte), (cI, .int)] sz)) (va_Qv (fun (u9 : (Nat → Int32) × Int32 × (Nat → Int32)) => u9 = fX3_loadByPair v_by v_ct v_wd a1) (fun u9 t => kq D (kX3 cB cI gc me ba rg wa sm v_im v_ei v_ha v_hb v_cy (u9.1) (u9.2.1) (u9.2.2)) [(cB, .byte), (cI, .int)] (va_A (kX3 cB cI gc me ba rg wa sm v_im v_ei v_ha v_hb v_cy v_by v_ct v_wd) sz) t) (va_A (kX3 cB cI gc me ba rg wa sm v_im v_ei v_ha v_hb v_cy v_by v_ct v_wd) sz)) 0 0 (va_A (kX3 cB cI gc me ba rg wa sm v_im v_ei v_ha v_hb v_cy v_by v_ct v_wd) sz) := by
  refine Met.ofW (cc := cX3_loadByPair) (maxL := 4) (ret := none) (by decide) rfl ?_
  intro p e s m args below meth c s₁ B hml hv
  obtain ⟨rfl, hsz, hP, hK, hD0, hT⟩ := hv
  have hx := B.exec
  have hb := B.bytes
  have hr := B.returns
  have hts := atoms_spec (ws := wwX3_loadByPair) B.pre
  have hws : ∀ w ∈ wsL_law, w.before _ s = true := fun w h => hts w (List.mem_cons_of_mem _ h)
  have hown : s.vm.findClass RX3 = some m.cls := findClass_of_methodNamed B.named
  have hlocks := B.notSynchronized
  subst hsz
  have hD := hD0.self (sz := s.heap.size)
  generalize hAe : va_A (kX3 cB cI gc me ba rg wa sm v_im v_ei v_ha v_hb v_cy v_by v_ct v_wd) s.heap.size = A at hD hT ⊢
  have hA : ∀ q : Nat, s.heap.size ≤ q → A q := fun q h => by rw [← hAe]; exact Or.inr h
  have hS : va_S A s.heap s.heap [] := va_S.rf
  have hl := lv_entry ([.ref gc, .int a1]) (n := 4) (Nat.le_of_ble_eq_true rfl)
  rw [lg_entry_eq]
  generalize (lg_sl ([.ref gc, .int a1]) ++ List.replicate (4 - (lg_sl ([.ref gc, .int a1])).length) Slot.unset).toArray = ls at hl ⊢
  have hl : lv_has ls 4 [(0, .ref gc), (1, .int a1)] := hl
  generalize hQ : MQ _ _ _ _ _ _ _ = Q
  obtain ⟨H, hHe⟩ : ∃ H : Heap, H = s.heap := ⟨_, rfl⟩
  obtain ⟨locs, hle⟩ : ∃ L : List Loc, L = [] := ⟨_, rfl⟩
  have hP : va_P D vwCl (kX3 cB cI gc me ba rg wa sm v_im v_ei v_ha v_hb v_cy v_by v_ct v_wd) H := by rw [hHe]; exact hP
  have hS : va_S A s.heap H locs := by rw [hHe, hle]; exact hS
  refine kw_start hHe.symm hle.symm ?_
  have hf : fX3_loadByPair v_by v_ct v_wd a1 = fX3_loadByPair v_by v_ct v_wd a1 := rfl
  refine lv_iconst (v := 1) hx hb dX3_loadByPair_0 (by decide) ?_
  refine lv_iload_n hx hb dX3_loadByPair_1 rfl (lv_at hl 1 rfl) ?_
  refine lv_iconst (v := 1) hx hb dX3_loadByPair_2 (by decide) ?_
  refine lv_ishr hx hb dX3_loadByPair_3 ?_
  refine lv_iadd hx hb dX3_loadByPair_4 ?_
  refine lv_iconst (v := 3) hx hb dX3_loadByPair_5 (by decide) ?_
  refine va_mmin hx hb (hml.trans hl.1.symm) hown (hws _ mw_263) (hws _ mw_264) (hws _ mw_265) (hws _ mw_266) (Nat.le_of_ble_eq_true rfl) (Nat.le_of_ble_eq_true rfl) (Nat.zero_le _) (Nat.zero_le _) dX3_loadByPair_6 ?_
  refine lv_topi (fun x1 ex1 => ?_)
  have hf := hf.trans (kE1 ex1)
  refine lv_istore_n (lv' := [(2, .int x1), (0, .ref gc), (1, .int a1)]) hx hb dX3_loadByPair_9 rfl hl (by decide) rfl (fun ls hl => ?_)
  refine lv_aload_n hx hb dX3_loadByPair_10 rfl (lv_at hl 1 rfl) ?_
  refine va_get (D := D) (ci := 3) (v := .ref rg) (C := RX3) (T := TX3) (N := 8) hx hb hws inlX3 hown hK hP 0 rfl rfl 1 (by decide) (hws _ mw_20) (fun _ h9 => h9) rfl dX3_loadByPair_11 ?_
  refine lv_iload_n hx hb dX3_loadByPair_14 rfl (lv_at hl 0 rfl) ?_
  refine kc_Vi (wr := [(gc, .inr (3, [.ref me, .ref rg, .ref sm, .int (bI v_im), .int (bI v_ei), .int (bI v_ha), .int (bI v_hb), .int v_cy])), (me, .inr (0, [.ref ba, .int v_ct])), (ba, .inl (cB, 65536, .inl v_by)), (sm, .inr (2, [.ref rg]))]) (As := [.int x1]) (rest := []) (fun _ => (kX3 cB cI gc me ba rg wa sm v_im v_ei v_ha v_hb v_cy v_by v_ct v_wd)) ⟨hx, hb, hml, hown, hws⟩ hK hP hD hS hA hT (c_X1_word l D cI rg wa H.size v_wd x1) (cwV 1 hws (gw_V mw_123 mw_124 mw_125 mw_32 mw_126) rfl rfl rfl hdX1_word ⟨Nat.le_of_ble_eq_true rfl, Nat.le_of_ble_eq_true rfl⟩) [3, 4] [0, 1, 2, 5] [1] [0, 1, 2, 4, 5, 3] rfl rfl rfl rfl (by decide) rfl (fun _ => rfl) rfl 3 rfl rfl rfl rfl hl.1 rfl (Nat.le_of_ble_eq_true rfl) dX3_loadByPair_15 ⟨Nat.zero_le _, Nat.zero_le _⟩ (fun r3 _ H locs hw2 hP hD hS => ?_)
  have hP : va_P D vwCl (kX3 cB cI gc me ba rg wa sm v_im v_ei v_ha v_hb v_cy v_by v_ct v_wd) H := hP
  have hD : va_D A (kX3 cB cI gc me ba rg wa sm v_im v_ei v_ha v_hb v_cy v_by v_ct v_wd) := hD
  have hf := hf.trans (kE1 hw2)
  refine lv_istore_n (lv' := [(3, .int r3), (2, .int x1), (0, .ref gc), (1, .int a1)]) hx hb dX3_loadByPair_18 rfl hl (by decide) rfl (fun ls hl => ?_)
  refine lv_iload_n hx hb dX3_loadByPair_19 rfl (lv_at hl 3 rfl) ?_
  refine lv_iconst (v := 1) hx hb dX3_loadByPair_20 (by decide) ?_
  refine lv_iand hx hb dX3_loadByPair_21 ?_
  obtain ⟨TJ17, hTJ17⟩ : ∃ T9 : (Nat → Int32) × Int32 × (Nat → Int32), T9 = (kIf (kEq (a1 &&& (1 : Int32)) (0 : Int32)) (kU1 (fX1_a v_wd) (fun (r10 : Int32) => (kU2 (fX0_write v_by v_ct r3 r10) (fun (b11 : Nat → Int32) (b12 : Int32) => (b11, b12, v_wd))))) (kU1 (fX0_at v_by r3) (fun (r6 : Int32) => (kU1 (fX1_setA v_wd r6) (fun (b7 : Nat → Int32) => (v_by, v_ct, b7)))))) := ⟨_, rfl⟩
  have J17 : ∀ (b14 : Nat → Int32) (b15 : Int32) (b16 : Nat → Int32), (b14, b15, b16) = TJ17 → ∀ (H : Heap) (locs : List Loc) (ls : Array Slot), lv_has ls 4 [(3, .int r3), (2, .int x1), (0, .ref gc), (1, .int a1)] → va_P D vwCl (kX3 cB cI gc me ba rg wa sm v_im v_ei v_ha v_hb v_cy b14 b15 b16) H → va_D A (kX3 cB cI gc me ba rg wa sm v_im v_ei v_ha v_hb v_cy b14 b15 b16) → va_S A s.heap H locs → W p l e (headSpec wwX3_loadByPair rmX3_loadByPair).room s m ([.ref gc, .int a1] : List Value).toArray below meth c H locs 0 0 Q (F0 m 58 ls []) := by
    intro b14 b15 b16 eJ17 H locs ls hl hP hD hS
    have hf := hf.trans (kE3 (eJ17.trans hTJ17))
    refine lv_iload_n hx hb dX3_loadByPair_58 rfl (lv_at hl 3 rfl) ?_
    refine lv_iconst (v := 4) hx hb dX3_loadByPair_59 (by decide) ?_
    refine lv_icmp_lt (tgt := 87) hx hb dX3_loadByPair_60 (by decide) (fun c18 => ?_) (fun c18 => ?_)
    · have hf := hf.trans (kt_lt c18)
      rw [← hQ]
      exact W.vret hx hb hr (fun t ht hW => ⟨⟨(b14, b15, b16), rfl, hf.symm, by rw [ht]; exact hP, va_K.moved hW.alike hK, hD⟩, hS.F ht⟩) hS.2.2 dX3_loadByPair_87
    · have hf := hf.trans (kf_lt c18)
      refine lv_aload_n hx hb dX3_loadByPair_63 rfl (lv_at hl 2 rfl) ?_
      refine va_get (D := D) (ci := 3) (v := .ref rg) (C := RX3) (T := TX3) (N := 8) hx hb hws inlX3 hown hK hP 0 rfl rfl 1 (by decide) (hws _ mw_20) (fun _ h9 => h9) rfl dX3_loadByPair_64 ?_
      refine lv_iconst (v := 3) hx hb dX3_loadByPair_67 (by decide) ?_
      refine lv_iload_n hx hb dX3_loadByPair_68 rfl (lv_at hl 3 rfl) ?_
      refine lv_bipush (v := 6) hx hb dX3_loadByPair_69 (by decide) ?_
      obtain ⟨TJ21, hTJ21⟩ : ∃ T9 : Int32, T9 = (kIf (kLe (6 : Int32) a1) (r3 - (1 : Int32)) (r3 + (1 : Int32))) := ⟨_, rfl⟩
      have J21 : ∀ (x20 : Int32), x20 = TJ21 → ∀ (H : Heap) (locs : List Loc) (ls : Array Slot), lv_has ls 4 [(3, .int r3), (2, .int x1), (0, .ref gc), (1, .int a1)] → va_P D vwCl (kX3 cB cI gc me ba rg wa sm v_im v_ei v_ha v_hb v_cy b14 b15 b16) H → va_D A (kX3 cB cI gc me ba rg wa sm v_im v_ei v_ha v_hb v_cy b14 b15 b16) → va_S A s.heap H locs → W p l e (headSpec wwX3_loadByPair rmX3_loadByPair).room s m ([.ref gc, .int a1] : List Value).toArray below meth c H locs 0 0 Q (F0 m 83 ls [.int x20, .int (3 : Int32), .ref rg]) := by
        intro x20 eJ21 H locs ls hl hP hD hS
        have hf := hf.trans (kE1 (eJ21.trans hTJ21))
        refine kc_Vi (wr := [(gc, .inr (3, [.ref me, .ref rg, .ref sm, .int (bI v_im), .int (bI v_ei), .int (bI v_ha), .int (bI v_hb), .int v_cy])), (me, .inr (0, [.ref ba, .int b15])), (ba, .inl (cB, 65536, .inl b14)), (sm, .inr (2, [.ref rg]))]) (As := [.int (3 : Int32), .int x20]) (rest := []) (fun u9 => (kX3 cB cI gc me ba rg wa sm v_im v_ei v_ha v_hb v_cy b14 b15 u9)) ⟨hx, hb, hml, hown, hws⟩ hK hP hD hS hA hT (c_X1_setWord l D cI rg wa H.size b16 (3 : Int32) x20) (cwV 2 hws (gw_V mw_137 mw_138 mw_139 mw_32 mw_140) rfl rfl rfl hdX1_setWord ⟨Nat.le_of_ble_eq_true rfl, Nat.le_of_ble_eq_true rfl⟩) [3, 4] [0, 1, 2, 5] [1] [0, 1, 2, 4, 5, 3] rfl rfl rfl rfl (by decide) rfl (fun _ => rfl) rfl 3 rfl rfl rfl rfl hl.1 rfl (Nat.le_of_ble_eq_true rfl) dX3_loadByPair_83 ⟨Nat.zero_le _, Nat.zero_le _⟩ (fun r24 b22 H locs hw23 hP hD hS => ?_)
        obtain ⟨z25, rfl, hw23⟩ := hw23
        have hP : va_P D vwCl (kX3 cB cI gc me ba rg wa sm v_im v_ei v_ha v_hb v_cy b14 b15 b22) H := hP
        have hD : va_D A (kX3 cB cI gc me ba rg wa sm v_im v_ei v_ha v_hb v_cy b14 b15 b22) := hD
        have hf := hf.trans (kE2 hw23)
        refine lv_pop hx hb dX3_loadByPair_86 rfl ?_
        rw [← hQ]
        exact W.vret hx hb hr (fun t ht hW => ⟨⟨(b14, b15, b22), rfl, hf.symm, by rw [ht]; exact hP, va_K.moved hW.alike hK, hD⟩, hS.F ht⟩) hS.2.2 dX3_loadByPair_87
      have hf := hTJ21
      refine lv_icmp_ge (tgt := 80) hx hb dX3_loadByPair_71 (by decide) (fun c19 => ?_) (fun c19 => ?_)
      · have hf := hf.trans (kt_le c19)
        refine lv_iload_n hx hb dX3_loadByPair_80 rfl (lv_at hl 0 rfl) ?_
        refine lv_iconst (v := 1) hx hb dX3_loadByPair_81 (by decide) ?_
        refine lv_isub hx hb dX3_loadByPair_82 ?_
        exact J21 (r3 - (1 : Int32)) hf.symm H locs ls (lv_sub hl [0, 1, 2, 3] rfl) hP hD hS
      · have hf := hf.trans (kf_le c19)
        refine lv_iload_n hx hb dX3_loadByPair_74 rfl (lv_at hl 0 rfl) ?_
        refine lv_iconst (v := 1) hx hb dX3_loadByPair_75 (by decide) ?_
        refine lv_iadd hx hb dX3_loadByPair_76 ?_
        refine lv_goto (tgt := 83) hx hb dX3_loadByPair_77 (by decide) ?_
        exact J21 (r3 + (1 : Int32)) hf.symm H locs ls (lv_sub hl [0, 1, 2, 3] rfl) hP hD hS
  have hf := hTJ17
  refine lv_if_ne (tgt := 43) hx hb dX3_loadByPair_22 (by decide) (fun c4 => ?_) (fun c4 => ?_)
  · have hf := hf.trans (kf_eq c4)
    refine lv_aload_n hx hb dX3_loadByPair_43 rfl (lv_at hl 2 rfl) ?_
    refine va_get (D := D) (ci := 3) (v := .ref rg) (C := RX3) (T := TX3) (N := 8) hx hb hws inlX3 hown hK hP 0 rfl rfl 1 (by decide) (hws _ mw_20) (fun _ h9 => h9) rfl dX3_loadByPair_44 ?_
    refine lv_aload_n hx hb dX3_loadByPair_47 rfl (lv_at hl 2 rfl) ?_
    refine va_get (D := D) (ci := 3) (v := .ref me) (C := RX3) (T := TX3) (N := 8) hx hb hws inlX3 hown hK hP 0 rfl rfl 0 (by decide) (hws _ mw_15) (fun _ h9 => h9) rfl dX3_loadByPair_48 ?_
    refine lv_iload_n hx hb dX3_loadByPair_51 rfl (lv_at hl 0 rfl) ?_
    refine kc_Vi (wr := [(gc, .inr (3, [.ref me, .ref rg, .ref sm, .int (bI v_im), .int (bI v_ei), .int (bI v_ha), .int (bI v_hb), .int v_cy])), (rg, .inr (1, [.ref wa])), (wa, .inl (cI, 6, .inl v_wd)), (sm, .inr (2, [.ref rg]))]) (As := [.int r3]) (rest := [.ref rg]) (fun _ => (kX3 cB cI gc me ba rg wa sm v_im v_ei v_ha v_hb v_cy v_by v_ct v_wd)) ⟨hx, hb, hml, hown, hws⟩ hK hP hD hS hA hT (c_X0_at l D cB me ba H.size v_by v_ct r3) (cwV 1 hws (gw_V mw_85 mw_86 mw_87 mw_14 mw_88) rfl rfl rfl hdX0_at ⟨Nat.le_of_ble_eq_true rfl, Nat.le_of_ble_eq_true rfl⟩) [1, 2] [0, 3, 4, 5] [0] [0, 4, 5, 1, 2, 3] rfl rfl rfl rfl (by decide) rfl (fun _ => rfl) rfl 1 rfl rfl rfl rfl hl.1 rfl (Nat.le_of_ble_eq_true rfl) dX3_loadByPair_52 ⟨Nat.zero_le _, Nat.zero_le _⟩ (fun r6 _ H locs hw5 hP hD hS => ?_)
    have hP : va_P D vwCl (kX3 cB cI gc me ba rg wa sm v_im v_ei v_ha v_hb v_cy v_by v_ct v_wd) H := hP
    have hD : va_D A (kX3 cB cI gc me ba rg wa sm v_im v_ei v_ha v_hb v_cy v_by v_ct v_wd) := hD
    have hf := hf.trans (kE1 hw5)
    refine kc_Vv (wr := [(gc, .inr (3, [.ref me, .ref rg, .ref sm, .int (bI v_im), .int (bI v_ei), .int (bI v_ha), .int (bI v_hb), .int v_cy])), (me, .inr (0, [.ref ba, .int v_ct])), (ba, .inl (cB, 65536, .inl v_by)), (sm, .inr (2, [.ref rg]))]) (As := [.int r6]) (rest := []) (fun u9 => (kX3 cB cI gc me ba rg wa sm v_im v_ei v_ha v_hb v_cy v_by v_ct u9)) ⟨hx, hb, hml, hown, hws⟩ hK hP hD hS hA hT (c_X1_setA l D cI rg wa H.size v_wd r6) (cwV 1 hws (gw_V mw_271 mw_272 mw_273 mw_32 mw_274) rfl rfl rfl hdX1_setA ⟨Nat.le_of_ble_eq_true rfl, Nat.le_of_ble_eq_true rfl⟩) [3, 4] [0, 1, 2, 5] [1] [0, 1, 2, 4, 5, 3] rfl rfl rfl rfl (by decide) rfl (fun _ => rfl) rfl 3 rfl rfl rfl rfl hl.1 rfl (Nat.le_of_ble_eq_true rfl) dX3_loadByPair_55 ⟨Nat.zero_le _, Nat.zero_le _⟩ (fun b7 H locs hw8 hP hD hS => ?_)
    have hP : va_P D vwCl (kX3 cB cI gc me ba rg wa sm v_im v_ei v_ha v_hb v_cy v_by v_ct b7) H := hP
    have hD : va_D A (kX3 cB cI gc me ba rg wa sm v_im v_ei v_ha v_hb v_cy v_by v_ct b7) := hD
    have hf := hf.trans (kE1 hw8)
    exact J17 v_by v_ct b7 hf.symm H locs ls (lv_sub hl [0, 1, 2, 3] rfl) hP hD hS
  · have hf := hf.trans (kt_eq c4)
    refine lv_aload_n hx hb dX3_loadByPair_25 rfl (lv_at hl 2 rfl) ?_
    refine va_get (D := D) (ci := 3) (v := .ref me) (C := RX3) (T := TX3) (N := 8) hx hb hws inlX3 hown hK hP 0 rfl rfl 0 (by decide) (hws _ mw_15) (fun _ h9 => h9) rfl dX3_loadByPair_26 ?_
    refine lv_iload_n hx hb dX3_loadByPair_29 rfl (lv_at hl 0 rfl) ?_
    refine lv_aload_n hx hb dX3_loadByPair_30 rfl (lv_at hl 2 rfl) ?_
    refine va_get (D := D) (ci := 3) (v := .ref rg) (C := RX3) (T := TX3) (N := 8) hx hb hws inlX3 hown hK hP 0 rfl rfl 1 (by decide) (hws _ mw_20) (fun _ h9 => h9) rfl dX3_loadByPair_31 ?_
    refine kc_Vi (wr := [(gc, .inr (3, [.ref me, .ref rg, .ref sm, .int (bI v_im), .int (bI v_ei), .int (bI v_ha), .int (bI v_hb), .int v_cy])), (me, .inr (0, [.ref ba, .int v_ct])), (ba, .inl (cB, 65536, .inl v_by)), (sm, .inr (2, [.ref rg]))]) (As := []) (rest := [.int r3, .ref me]) (fun _ => (kX3 cB cI gc me ba rg wa sm v_im v_ei v_ha v_hb v_cy v_by v_ct v_wd)) ⟨hx, hb, hml, hown, hws⟩ hK hP hD hS hA hT (c_X1_a l D cI rg wa H.size v_wd ) (cwV 0 hws (gw_V mw_267 mw_268 mw_269 mw_32 mw_270) rfl rfl rfl hdX1_a ⟨Nat.le_of_ble_eq_true rfl, Nat.le_of_ble_eq_true rfl⟩) [3, 4] [0, 1, 2, 5] [1] [0, 1, 2, 4, 5, 3] rfl rfl rfl rfl (by decide) rfl (fun _ => rfl) rfl 3 rfl rfl rfl rfl hl.1 rfl (Nat.le_of_ble_eq_true rfl) dX3_loadByPair_34 ⟨Nat.zero_le _, Nat.zero_le _⟩ (fun r10 _ H locs hw9 hP hD hS => ?_)
    have hP : va_P D vwCl (kX3 cB cI gc me ba rg wa sm v_im v_ei v_ha v_hb v_cy v_by v_ct v_wd) H := hP
    have hD : va_D A (kX3 cB cI gc me ba rg wa sm v_im v_ei v_ha v_hb v_cy v_by v_ct v_wd) := hD
    have hf := hf.trans (kE1 hw9)
    refine kc_Vv (wr := [(gc, .inr (3, [.ref me, .ref rg, .ref sm, .int (bI v_im), .int (bI v_ei), .int (bI v_ha), .int (bI v_hb), .int v_cy])), (rg, .inr (1, [.ref wa])), (wa, .inl (cI, 6, .inl v_wd)), (sm, .inr (2, [.ref rg]))]) (As := [.int r3, .int r10]) (rest := []) (fun u9 => (kX3 cB cI gc me ba rg wa sm v_im v_ei v_ha v_hb v_cy (u9.1) (u9.2) v_wd)) ⟨hx, hb, hml, hown, hws⟩ hK hP hD hS hA hT (c_X0_write l D cB me ba H.size v_by v_ct r3 r10) (cwV 2 hws (gw_V mw_131 mw_132 mw_133 mw_14 mw_134) rfl rfl rfl hdX0_write ⟨Nat.le_of_ble_eq_true rfl, Nat.le_of_ble_eq_true rfl⟩) [1, 2] [0, 3, 4, 5] [0] [0, 4, 5, 1, 2, 3] rfl rfl rfl rfl (by decide) rfl (fun _ => rfl) rfl 1 rfl rfl rfl rfl hl.1 rfl (Nat.le_of_ble_eq_true rfl) dX3_loadByPair_37 ⟨Nat.zero_le _, Nat.zero_le _⟩ (fun u9 H locs hw13 hP hD hS => ?_)
    obtain ⟨b11, b12⟩ := u9
    have hP : va_P D vwCl (kX3 cB cI gc me ba rg wa sm v_im v_ei v_ha v_hb v_cy b11 b12 v_wd) H := hP
    have hD : va_D A (kX3 cB cI gc me ba rg wa sm v_im v_ei v_ha v_hb v_cy b11 b12 v_wd) := hD
    have hf := hf.trans (kE2 hw13)
    refine lv_goto (tgt := 58) hx hb dX3_loadByPair_40 (by decide) ?_
    exact J17 b11 b12 v_wd hf.symm H locs ls (lv_sub hl [0, 1, 2, 3] rfl) hP hD hS
def fX3_stepPair (v_wd : Nat → Int32) (a1 : Int32) : (Nat → Int32) := (kU1 (((1 : Int32) + (a1 >>> ((1 : Int32) &&& (31 : Int32))))) (fun (x1 : Int32) => (kU1 (((kIf (kEq (a1 &&& (1 : Int32)) (0 : Int32)) (1 : Int32) (-1 : Int32)) : Int32)) (fun (x3 : Int32) => (kU1 (fX1_word v_wd x1) (fun (r6 : Int32) => (kU2 (fX1_setWord v_wd x1 (r6 + x3)) (fun (z10 : Bool) (b7 : Nat → Int32) => b7))))))))
def rmX3_stepPair : Room := { frames := 1, cells := 0, slots := 0, locals := 22 }
def wwX3_stepPair : List Cond := Cond.code yX3_stepPair cX3_stepPair 4 none :: wsL_law
theorem hdX3_stepPair : yX3_stepPair.cls = RX3 ∧ yX3_stepPair.cls ≠ "java/lang/invoke/MethodHandle" ∧ yX3_stepPair.cls ≠ "java/lang/invoke/VarHandle" ∧ (parseMethodDescriptor yX3_stepPair.desc).map (fun d => d.parameters.length) = some 1 := by decide +kernel
set_option maxHeartbeats 4000000 in
set_option maxRecDepth 100000 in
theorem c_X3_stepPair (l : Launch) (D : va_G) (cB : ClassId) (cI : ClassId) (gc me ba rg wa sm sz : Nat) (v_im : Bool) (v_ei : Bool) (v_ha : Bool) (v_hb : Bool) (v_cy : Int32) (v_by : Nat → Int32) (v_ct : Int32) (v_wd : Nat → Int32) (a1 : Int32)  : Met l yX3_stepPair wwX3_stepPair rmX3_stepPair (va_Pc [.ref gc, .int a1] (kp D (kX3 cB cI gc me ba rg wa sm v_im v_ei v_ha v_hb v_cy v_by v_ct v_wd) [(cB, .byte), (cI, .int)] sz)) (va_Qv (fun (u9 : (Nat → Int32)) => u9 = fX3_stepPair v_wd a1) (fun u9 t => kq D (kX3 cB cI gc me ba rg wa sm v_im v_ei v_ha v_hb v_cy v_by v_ct u9) [(cB, .byte), (cI, .int)] (va_A (kX3 cB cI gc me ba rg wa sm v_im v_ei v_ha v_hb v_cy v_by v_ct v_wd) sz) t) (va_A (kX3 cB cI gc me ba rg wa sm v_im v_ei v_ha v_hb v_cy v_by v_ct v_wd) sz)) 0 0 (va_A (kX3 cB cI gc me ba rg wa sm v_im v_ei v_ha v_hb v_cy v_by v_ct v_wd) sz) := by
  refine Met.ofW (cc := cX3_stepPair) (maxL := 4) (ret := none) (by decide) rfl ?_
  intro p e s m args below meth c s₁ B hml hv
  obtain ⟨rfl, hsz, hP, hK, hD0, hT⟩ := hv
  have hx := B.exec
  have hb := B.bytes
  have hr := B.returns
  have hts := atoms_spec (ws := wwX3_stepPair) B.pre
  have hws : ∀ w ∈ wsL_law, w.before _ s = true := fun w h => hts w (List.mem_cons_of_mem _ h)
  have hown : s.vm.findClass RX3 = some m.cls := findClass_of_methodNamed B.named
  have hlocks := B.notSynchronized
  subst hsz
  have hD := hD0.self (sz := s.heap.size)
  generalize hAe : va_A (kX3 cB cI gc me ba rg wa sm v_im v_ei v_ha v_hb v_cy v_by v_ct v_wd) s.heap.size = A at hD hT ⊢
  have hA : ∀ q : Nat, s.heap.size ≤ q → A q := fun q h => by rw [← hAe]; exact Or.inr h
  have hS : va_S A s.heap s.heap [] := va_S.rf
  have hl := lv_entry ([.ref gc, .int a1]) (n := 4) (Nat.le_of_ble_eq_true rfl)
  rw [lg_entry_eq]
  generalize (lg_sl ([.ref gc, .int a1]) ++ List.replicate (4 - (lg_sl ([.ref gc, .int a1])).length) Slot.unset).toArray = ls at hl ⊢
  have hl : lv_has ls 4 [(0, .ref gc), (1, .int a1)] := hl
  generalize hQ : MQ _ _ _ _ _ _ _ = Q
  obtain ⟨H, hHe⟩ : ∃ H : Heap, H = s.heap := ⟨_, rfl⟩
  obtain ⟨locs, hle⟩ : ∃ L : List Loc, L = [] := ⟨_, rfl⟩
  have hP : va_P D vwCl (kX3 cB cI gc me ba rg wa sm v_im v_ei v_ha v_hb v_cy v_by v_ct v_wd) H := by rw [hHe]; exact hP
  have hS : va_S A s.heap H locs := by rw [hHe, hle]; exact hS
  refine kw_start hHe.symm hle.symm ?_
  have hf : fX3_stepPair v_wd a1 = fX3_stepPair v_wd a1 := rfl
  refine lv_iconst (v := 1) hx hb dX3_stepPair_0 (by decide) ?_
  refine lv_iload_n hx hb dX3_stepPair_1 rfl (lv_at hl 1 rfl) ?_
  refine lv_iconst (v := 1) hx hb dX3_stepPair_2 (by decide) ?_
  refine lv_ishr hx hb dX3_stepPair_3 ?_
  refine lv_iadd hx hb dX3_stepPair_4 ?_
  refine lv_topi (fun x1 ex1 => ?_)
  have hf := hf.trans (kE1 ex1)
  refine lv_istore_n (lv' := [(2, .int x1), (0, .ref gc), (1, .int a1)]) hx hb dX3_stepPair_5 rfl hl (by decide) rfl (fun ls hl => ?_)
  refine lv_iload_n hx hb dX3_stepPair_6 rfl (lv_at hl 2 rfl) ?_
  refine lv_iconst (v := 1) hx hb dX3_stepPair_7 (by decide) ?_
  refine lv_iand hx hb dX3_stepPair_8 ?_
  obtain ⟨TJ4, hTJ4⟩ : ∃ T9 : Int32, T9 = (kIf (kEq (a1 &&& (1 : Int32)) (0 : Int32)) (1 : Int32) (-1 : Int32)) := ⟨_, rfl⟩
  have J4 : ∀ (x3 : Int32), x3 = TJ4 → ∀ (H : Heap) (locs : List Loc) (ls : Array Slot), lv_has ls 4 [(2, .int x1), (0, .ref gc), (1, .int a1)] → va_P D vwCl (kX3 cB cI gc me ba rg wa sm v_im v_ei v_ha v_hb v_cy v_by v_ct v_wd) H → va_D A (kX3 cB cI gc me ba rg wa sm v_im v_ei v_ha v_hb v_cy v_by v_ct v_wd) → va_S A s.heap H locs → W p l e (headSpec wwX3_stepPair rmX3_stepPair).room s m ([.ref gc, .int a1] : List Value).toArray below meth c H locs 0 0 Q (F0 m 17 ls [.int x3]) := by
    intro x3 eJ4 H locs ls hl hP hD hS
    have hf := hf.trans (kE1 (eJ4.trans hTJ4))
    refine lv_istore_n (lv' := [(3, .int x3), (2, .int x1), (0, .ref gc), (1, .int a1)]) hx hb dX3_stepPair_17 rfl hl (by decide) rfl (fun ls hl => ?_)
    refine lv_aload_n hx hb dX3_stepPair_18 rfl (lv_at hl 2 rfl) ?_
    refine va_get (D := D) (ci := 3) (v := .ref rg) (C := RX3) (T := TX3) (N := 8) hx hb hws inlX3 hown hK hP 0 rfl rfl 1 (by decide) (hws _ mw_20) (fun _ h9 => h9) rfl dX3_stepPair_19 ?_
    refine lv_iload_n hx hb dX3_stepPair_22 rfl (lv_at hl 1 rfl) ?_
    refine lv_aload_n hx hb dX3_stepPair_23 rfl (lv_at hl 2 rfl) ?_
    refine va_get (D := D) (ci := 3) (v := .ref rg) (C := RX3) (T := TX3) (N := 8) hx hb hws inlX3 hown hK hP 0 rfl rfl 1 (by decide) (hws _ mw_20) (fun _ h9 => h9) rfl dX3_stepPair_24 ?_
    refine lv_iload_n hx hb dX3_stepPair_27 rfl (lv_at hl 1 rfl) ?_
    refine kc_Vi (wr := [(gc, .inr (3, [.ref me, .ref rg, .ref sm, .int (bI v_im), .int (bI v_ei), .int (bI v_ha), .int (bI v_hb), .int v_cy])), (me, .inr (0, [.ref ba, .int v_ct])), (ba, .inl (cB, 65536, .inl v_by)), (sm, .inr (2, [.ref rg]))]) (As := [.int x1]) (rest := [.int x1, .ref rg]) (fun _ => (kX3 cB cI gc me ba rg wa sm v_im v_ei v_ha v_hb v_cy v_by v_ct v_wd)) ⟨hx, hb, hml, hown, hws⟩ hK hP hD hS hA hT (c_X1_word l D cI rg wa H.size v_wd x1) (cwV 1 hws (gw_V mw_123 mw_124 mw_125 mw_32 mw_126) rfl rfl rfl hdX1_word ⟨Nat.le_of_ble_eq_true rfl, Nat.le_of_ble_eq_true rfl⟩) [3, 4] [0, 1, 2, 5] [1] [0, 1, 2, 4, 5, 3] rfl rfl rfl rfl (by decide) rfl (fun _ => rfl) rfl 3 rfl rfl rfl rfl hl.1 rfl (Nat.le_of_ble_eq_true rfl) dX3_stepPair_28 ⟨Nat.zero_le _, Nat.zero_le _⟩ (fun r6 _ H locs hw5 hP hD hS => ?_)
    have hP : va_P D vwCl (kX3 cB cI gc me ba rg wa sm v_im v_ei v_ha v_hb v_cy v_by v_ct v_wd) H := hP
    have hD : va_D A (kX3 cB cI gc me ba rg wa sm v_im v_ei v_ha v_hb v_cy v_by v_ct v_wd) := hD
    have hf := hf.trans (kE1 hw5)
    refine lv_iload_n hx hb dX3_stepPair_31 rfl (lv_at hl 0 rfl) ?_
    refine lv_iadd hx hb dX3_stepPair_32 ?_
    refine kc_Vi (wr := [(gc, .inr (3, [.ref me, .ref rg, .ref sm, .int (bI v_im), .int (bI v_ei), .int (bI v_ha), .int (bI v_hb), .int v_cy])), (me, .inr (0, [.ref ba, .int v_ct])), (ba, .inl (cB, 65536, .inl v_by)), (sm, .inr (2, [.ref rg]))]) (As := [.int x1, .int (r6 + x3)]) (rest := []) (fun u9 => (kX3 cB cI gc me ba rg wa sm v_im v_ei v_ha v_hb v_cy v_by v_ct u9)) ⟨hx, hb, hml, hown, hws⟩ hK hP hD hS hA hT (c_X1_setWord l D cI rg wa H.size v_wd x1 (r6 + x3)) (cwV 2 hws (gw_V mw_137 mw_138 mw_139 mw_32 mw_140) rfl rfl rfl hdX1_setWord ⟨Nat.le_of_ble_eq_true rfl, Nat.le_of_ble_eq_true rfl⟩) [3, 4] [0, 1, 2, 5] [1] [0, 1, 2, 4, 5, 3] rfl rfl rfl rfl (by decide) rfl (fun _ => rfl) rfl 3 rfl rfl rfl rfl hl.1 rfl (Nat.le_of_ble_eq_true rfl) dX3_stepPair_33 ⟨Nat.zero_le _, Nat.zero_le _⟩ (fun r9 b7 H locs hw8 hP hD hS => ?_)
    obtain ⟨z10, rfl, hw8⟩ := hw8
    have hP : va_P D vwCl (kX3 cB cI gc me ba rg wa sm v_im v_ei v_ha v_hb v_cy v_by v_ct b7) H := hP
    have hD : va_D A (kX3 cB cI gc me ba rg wa sm v_im v_ei v_ha v_hb v_cy v_by v_ct b7) := hD
    have hf := hf.trans (kE2 hw8)
    refine lv_pop hx hb dX3_stepPair_36 rfl ?_
    rw [← hQ]
    exact W.vret hx hb hr (fun t ht hW => ⟨⟨b7, rfl, hf.symm, by rw [ht]; exact hP, va_K.moved hW.alike hK, hD⟩, hS.F ht⟩) hS.2.2 dX3_stepPair_37
  have hf := hTJ4
  refine lv_if_ne (tgt := 16) hx hb dX3_stepPair_9 (by decide) (fun c2 => ?_) (fun c2 => ?_)
  · have hf := hf.trans (kf_eq c2)
    refine lv_iconst (v := -1) hx hb dX3_stepPair_16 (by decide) ?_
    exact J4 (-1 : Int32) hf.symm H locs ls (lv_sub hl [0, 1, 2] rfl) hP hD hS
  · have hf := hf.trans (kt_eq c2)
    refine lv_iconst (v := 1) hx hb dX3_stepPair_12 (by decide) ?_
    refine lv_goto (tgt := 17) hx hb dX3_stepPair_13 (by decide) ?_
    exact J4 (1 : Int32) hf.symm H locs ls (lv_sub hl [0, 1, 2] rfl) hP hD hS
def fX3_executeFirstQuarter (v_by : Nat → Int32) (v_ct : Int32) (v_wd : Nat → Int32) (a1 : Int32) (a2 : Int32) : Int32 × (Nat → Int32) × Int32 × (Nat → Int32) := (kIf (kEq a2 (0 : Int32)) (kU3 (((kIf (kEq a1 (1 : Int32)) (kU3 (fX3_storeSp v_by v_ct v_wd) (fun (b3 : Nat → Int32) (b4 : Int32) (b5 : Nat → Int32) => (b3, b4, b5))) (v_by, v_ct, v_wd)) : (Nat → Int32) × Int32 × (Nat → Int32))) (fun (b7 : Nat → Int32) (b8 : Int32) (b9 : Nat → Int32) => (kIf (kLe (3 : Int32) a1) (kU1 (((kIf (kEq a1 (3 : Int32)) true (kU1 (fX3_holds b9 (a1 - (4 : Int32))) (fun (z15 : Bool) => (kIf (kEq (bI z15) (0 : Int32)) false true)))) : Bool)) (fun (z17 : Bool) => (kU2 (fX3_jumpRelativeIf b7 b9 z17) (fun (r21 : Int32) (b19 : Nat → Int32) => (r21, b7, b8, b19))))) ((0 : Int32), b7, b8, b9)))) (kIf (kEq a2 (1 : Int32)) (kU1 (fX3_loadOrAddWord v_by v_wd a1) (fun (b23 : Nat → Int32) => ((0 : Int32), v_by, v_ct, b23))) (kIf (kEq a2 (2 : Int32)) (kU3 (fX3_loadByPair v_by v_ct v_wd a1) (fun (b26 : Nat → Int32) (b27 : Int32) (b28 : Nat → Int32) => ((0 : Int32), b26, b27, b28))) (kIf (kEq a2 (3 : Int32)) (kU1 (fX3_stepPair v_wd a1) (fun (b31 : Nat → Int32) => ((0 : Int32), v_by, v_ct, b31))) (kIf (kEq a2 (4 : Int32)) (kU1 (fX3_operand v_by v_wd a1) (fun (r35 : Int32) => (kU2 (fX2_increment v_wd r35) (fun (r38 : Int32) (b36 : Nat → Int32) => (kU3 (fX3_setOperand v_by v_ct b36 a1 r38) (fun (b39 : Nat → Int32) (b40 : Int32) (b41 : Nat → Int32) => ((0 : Int32), b39, b40, b41))))))) (kIf (kEq a2 (5 : Int32)) (kU1 (fX3_operand v_by v_wd a1) (fun (r45 : Int32) => (kU2 (fX2_decrement v_wd r45) (fun (r48 : Int32) (b46 : Nat → Int32) => (kU3 (fX3_setOperand v_by v_ct b46 a1 r48) (fun (b49 : Nat → Int32) (b50 : Int32) (b51 : Nat → Int32) => ((0 : Int32), b49, b50, b51))))))) (kIf (kEq a2 (6 : Int32)) (kU2 (fX3_fetch v_by v_wd) (fun (r56 : Int32) (b54 : Nat → Int32) => (kU3 (fX3_setOperand v_by v_ct b54 a1 r56) (fun (b57 : Nat → Int32) (b58 : Int32) (b59 : Nat → Int32) => ((0 : Int32), b57, b58, b59))))) (kU1 (fX2_changeA v_wd a1) (fun (b61 : Nat → Int32) => ((0 : Int32), v_by, v_ct, b61))))))))))
def rmX3_executeFirstQuarter : Room := { frames := 3, cells := 0, slots := 0, locals := 72 }
def wwX3_executeFirstQuarter : List Cond := Cond.code yX3_executeFirstQuarter cX3_executeFirstQuarter 3 (some .int) :: wsL_law
theorem hdX3_executeFirstQuarter : yX3_executeFirstQuarter.cls = RX3 ∧ yX3_executeFirstQuarter.cls ≠ "java/lang/invoke/MethodHandle" ∧ yX3_executeFirstQuarter.cls ≠ "java/lang/invoke/VarHandle" ∧ (parseMethodDescriptor yX3_executeFirstQuarter.desc).map (fun d => d.parameters.length) = some 2 := by decide +kernel
set_option maxHeartbeats 4000000 in
set_option maxRecDepth 100000 in
theorem c_X3_executeFirstQuarter (l : Launch) (D : va_G) (cB : ClassId) (cI : ClassId) (gc me ba rg wa sm sz : Nat) (v_im : Bool) (v_ei : Bool) (v_ha : Bool) (v_hb : Bool) (v_cy : Int32) (v_by : Nat → Int32) (v_ct : Int32) (v_wd : Nat → Int32) (a1 : Int32) (a2 : Int32)  : Met l yX3_executeFirstQuarter wwX3_executeFirstQuarter rmX3_executeFirstQuarter (va_Pc [.ref gc, .int a1, .int a2] (kp D (kX3 cB cI gc me ba rg wa sm v_im v_ei v_ha v_hb v_cy v_by v_ct v_wd) [(cB, .byte), (cI, .int)] sz)) (va_Qi (fun (r : Int32) (u9 : (Nat → Int32) × Int32 × (Nat → Int32)) => (r, u9) = fX3_executeFirstQuarter v_by v_ct v_wd a1 a2) (fun u9 t => kq D (kX3 cB cI gc me ba rg wa sm v_im v_ei v_ha v_hb v_cy (u9.1) (u9.2.1) (u9.2.2)) [(cB, .byte), (cI, .int)] (va_A (kX3 cB cI gc me ba rg wa sm v_im v_ei v_ha v_hb v_cy v_by v_ct v_wd) sz) t) (va_A (kX3 cB cI gc me ba rg wa sm v_im v_ei v_ha v_hb v_cy v_by v_ct v_wd) sz)) 0 0 (va_A (kX3 cB cI gc me ba rg wa sm v_im v_ei v_ha v_hb v_cy v_by v_ct v_wd) sz) := by
  refine Met.ofW (cc := cX3_executeFirstQuarter) (maxL := 3) (ret := (some .int)) (by decide) rfl ?_
  intro p e s m args below meth c s₁ B hml hv
  obtain ⟨rfl, hsz, hP, hK, hD0, hT⟩ := hv
  have hx := B.exec
  have hb := B.bytes
  have hr := B.returns
  have hts := atoms_spec (ws := wwX3_executeFirstQuarter) B.pre
  have hws : ∀ w ∈ wsL_law, w.before _ s = true := fun w h => hts w (List.mem_cons_of_mem _ h)
  have hown : s.vm.findClass RX3 = some m.cls := findClass_of_methodNamed B.named
  have hlocks := B.notSynchronized
  subst hsz
  have hD := hD0.self (sz := s.heap.size)
  generalize hAe : va_A (kX3 cB cI gc me ba rg wa sm v_im v_ei v_ha v_hb v_cy v_by v_ct v_wd) s.heap.size = A at hD hT ⊢
  have hA : ∀ q : Nat, s.heap.size ≤ q → A q := fun q h => by rw [← hAe]; exact Or.inr h
  have hS : va_S A s.heap s.heap [] := va_S.rf
  have hl := lv_entry ([.ref gc, .int a1, .int a2]) (n := 3) (Nat.le_of_ble_eq_true rfl)
  rw [lg_entry_eq]
  generalize (lg_sl ([.ref gc, .int a1, .int a2]) ++ List.replicate (3 - (lg_sl ([.ref gc, .int a1, .int a2])).length) Slot.unset).toArray = ls at hl ⊢
  have hl : lv_has ls 3 [(0, .ref gc), (1, .int a1), (2, .int a2)] := hl
  generalize hQ : MQ _ _ _ _ _ _ _ = Q
  obtain ⟨H, hHe⟩ : ∃ H : Heap, H = s.heap := ⟨_, rfl⟩
  obtain ⟨locs, hle⟩ : ∃ L : List Loc, L = [] := ⟨_, rfl⟩
  have hP : va_P D vwCl (kX3 cB cI gc me ba rg wa sm v_im v_ei v_ha v_hb v_cy v_by v_ct v_wd) H := by rw [hHe]; exact hP
  have hS : va_S A s.heap H locs := by rw [hHe, hle]; exact hS
  refine kw_start hHe.symm hle.symm ?_
  have hf : fX3_executeFirstQuarter v_by v_ct v_wd a1 a2 = fX3_executeFirstQuarter v_by v_ct v_wd a1 a2 := rfl
  refine lv_iload_n hx hb dX3_executeFirstQuarter_0 rfl (lv_at hl 2 rfl) ?_
  by_cases c1 : a2 = (0 : Int32)
  · have hf := hf.trans (kt_eq c1)
    refine lv_tableIn (off := 43) (tgt := 44) hx hb dX3_executeFirstQuarter_1 (by rw [c1]; decide) (by rw [c1]; decide) (by rw [c1]; decide) (by decide) ?_
    refine lv_iload_n hx hb dX3_executeFirstQuarter_44 rfl (lv_at hl 1 rfl) ?_
    refine lv_iconst (v := 1) hx hb dX3_executeFirstQuarter_45 (by decide) ?_
    obtain ⟨TJ10, hTJ10⟩ : ∃ T9 : (Nat → Int32) × Int32 × (Nat → Int32), T9 = (kIf (kEq a1 (1 : Int32)) (kU3 (fX3_storeSp v_by v_ct v_wd) (fun (b3 : Nat → Int32) (b4 : Int32) (b5 : Nat → Int32) => (b3, b4, b5))) (v_by, v_ct, v_wd)) := ⟨_, rfl⟩
    have J10 : ∀ (b7 : Nat → Int32) (b8 : Int32) (b9 : Nat → Int32), (b7, b8, b9) = TJ10 → ∀ (H : Heap) (locs : List Loc) (ls : Array Slot), lv_has ls 3 [(0, .ref gc), (1, .int a1), (2, .int a2)] → va_P D vwCl (kX3 cB cI gc me ba rg wa sm v_im v_ei v_ha v_hb v_cy b7 b8 b9) H → va_D A (kX3 cB cI gc me ba rg wa sm v_im v_ei v_ha v_hb v_cy b7 b8 b9) → va_S A s.heap H locs → W p l e (headSpec wwX3_executeFirstQuarter rmX3_executeFirstQuarter).room s m ([.ref gc, .int a1, .int a2] : List Value).toArray below meth c H locs 0 0 Q (F0 m 53 ls []) := by
      intro b7 b8 b9 eJ10 H locs ls hl hP hD hS
      have hf := hf.trans (kE3 (eJ10.trans hTJ10))
      refine lv_iload_n hx hb dX3_executeFirstQuarter_53 rfl (lv_at hl 1 rfl) ?_
      refine lv_iconst (v := 3) hx hb dX3_executeFirstQuarter_54 (by decide) ?_
      refine lv_icmp_ge (tgt := 62) hx hb dX3_executeFirstQuarter_55 (by decide) (fun c11 => ?_) (fun c11 => ?_)
      · have hf := hf.trans (kt_le c11)
        refine lv_aload_n hx hb dX3_executeFirstQuarter_62 rfl (lv_at hl 0 rfl) ?_
        refine lv_iload_n hx hb dX3_executeFirstQuarter_63 rfl (lv_at hl 1 rfl) ?_
        refine lv_iconst (v := 3) hx hb dX3_executeFirstQuarter_64 (by decide) ?_
        obtain ⟨TJ18, hTJ18⟩ : ∃ T9 : Bool, T9 = (kIf (kEq a1 (3 : Int32)) true (kU1 (fX3_holds b9 (a1 - (4 : Int32))) (fun (z15 : Bool) => (kIf (kEq (bI z15) (0 : Int32)) false true)))) := ⟨_, rfl⟩
        have J18 : ∀ (z17 : Bool), z17 = TJ18 → ∀ (H : Heap) (locs : List Loc) (ls : Array Slot), lv_has ls 3 [(0, .ref gc), (1, .int a1), (2, .int a2)] → va_P D vwCl (kX3 cB cI gc me ba rg wa sm v_im v_ei v_ha v_hb v_cy b7 b8 b9) H → va_D A (kX3 cB cI gc me ba rg wa sm v_im v_ei v_ha v_hb v_cy b7 b8 b9) → va_S A s.heap H locs → W p l e (headSpec wwX3_executeFirstQuarter rmX3_executeFirstQuarter).room s m ([.ref gc, .int a1, .int a2] : List Value).toArray below meth c H locs 0 0 Q (F0 m 83 ls [.int (bI z17), .ref gc]) := by
          intro z17 eJ18 H locs ls hl hP hD hS
          have hf := hf.trans (kE1 (eJ18.trans hTJ18))
          refine kc_Vi (wr := []) (As := [.int (bI z17)]) (rest := []) (fun u9 => (kX3 cB cI gc me ba rg wa sm v_im v_ei v_ha v_hb v_cy b7 b8 u9)) ⟨hx, hb, hml, hown, hws⟩ hK hP hD hS hA hT (c_X3_jumpRelativeIf l D cB cI gc me ba rg wa sm H.size v_im v_ei v_ha v_hb v_cy b7 b8 b9 z17) (cwV 1 hws (gw_V mw_244 mw_245 mw_246 mw_2 mw_247) rfl rfl rfl hdX3_jumpRelativeIf ⟨Nat.le_of_ble_eq_true rfl, Nat.le_of_ble_eq_true rfl⟩) [0, 1, 2, 3, 4, 5] [] [0, 1] [0, 1, 2, 3, 4, 5] rfl rfl rfl rfl (by decide) rfl (fun _ => rfl) rfl 0 rfl rfl rfl rfl hl.1 rfl (Nat.le_of_ble_eq_true rfl) dX3_executeFirstQuarter_83 ⟨Nat.zero_le _, Nat.zero_le _⟩ (fun r21 b19 H locs hw20 hP hD hS => ?_)
          have hP : va_P D vwCl (kX3 cB cI gc me ba rg wa sm v_im v_ei v_ha v_hb v_cy b7 b8 b19) H := hP
          have hD : va_D A (kX3 cB cI gc me ba rg wa sm v_im v_ei v_ha v_hb v_cy b7 b8 b19) := hD
          have hf := hf.trans (kE2 hw20)
          rw [← hQ]
          exact W.iret (v := r21) hx hb hr (fun t ht hW => ⟨⟨r21, (b7, b8, b19), rfl, hf.symm, by rw [ht]; exact hP, va_K.moved hW.alike hK, hD⟩, hS.F ht⟩) hS.2.2 dX3_executeFirstQuarter_86
        have hf := hTJ18
        refine lv_icmp_eq (tgt := 78) hx hb dX3_executeFirstQuarter_65 (by decide) (fun c12 => ?_) (fun c12 => ?_)
        · have hf := hf.trans (kt_eq c12)
          refine lv_iconst (v := 1) hx hb dX3_executeFirstQuarter_78 (by decide) ?_
          refine lv_goto (tgt := 83) hx hb dX3_executeFirstQuarter_79 (by decide) ?_
          exact J18 true hf.symm H locs ls (lv_sub hl [0, 1, 2] rfl) hP hD hS
        · have hf := hf.trans (kf_eq c12)
          refine lv_aload_n hx hb dX3_executeFirstQuarter_68 rfl (lv_at hl 0 rfl) ?_
          refine lv_iload_n hx hb dX3_executeFirstQuarter_69 rfl (lv_at hl 1 rfl) ?_
          refine lv_iconst (v := 4) hx hb dX3_executeFirstQuarter_70 (by decide) ?_
          refine lv_isub hx hb dX3_executeFirstQuarter_71 ?_
          refine kc_Vi (wr := []) (As := [.int (a1 - (4 : Int32))]) (rest := [.ref gc]) (fun _ => (kX3 cB cI gc me ba rg wa sm v_im v_ei v_ha v_hb v_cy b7 b8 b9)) ⟨hx, hb, hml, hown, hws⟩ hK hP hD hS hA hT (c_X3_holds l D cB cI gc me ba rg wa sm H.size v_im v_ei v_ha v_hb v_cy b7 b8 b9 (a1 - (4 : Int32))) (cwV 1 hws (gw_V mw_239 mw_240 mw_241 mw_2 mw_242) rfl rfl rfl hdX3_holds ⟨Nat.le_of_ble_eq_true rfl, Nat.le_of_ble_eq_true rfl⟩) [0, 1, 2, 3, 4, 5] [] [0, 1] [0, 1, 2, 3, 4, 5] rfl rfl rfl rfl (by decide) rfl (fun _ => rfl) rfl 0 rfl rfl rfl rfl hl.1 rfl (Nat.le_of_ble_eq_true rfl) dX3_executeFirstQuarter_72 ⟨Nat.zero_le _, Nat.zero_le _⟩ (fun r14 _ H locs hw13 hP hD hS => ?_)
          obtain ⟨z15, rfl, hw13⟩ := hw13
          have hP : va_P D vwCl (kX3 cB cI gc me ba rg wa sm v_im v_ei v_ha v_hb v_cy b7 b8 b9) H := hP
          have hD : va_D A (kX3 cB cI gc me ba rg wa sm v_im v_ei v_ha v_hb v_cy b7 b8 b9) := hD
          have hf := hf.trans (kE1 hw13)
          refine lv_if_eq (tgt := 82) hx hb dX3_executeFirstQuarter_75 (by decide) (fun c16 => ?_) (fun c16 => ?_)
          · have hf := hf.trans (kt_eq c16)
            refine lv_iconst (v := 0) hx hb dX3_executeFirstQuarter_82 (by decide) ?_
            exact J18 false hf.symm H locs ls (lv_sub hl [0, 1, 2] rfl) hP hD hS
          · have hf := hf.trans (kf_eq c16)
            refine lv_iconst (v := 1) hx hb dX3_executeFirstQuarter_78 (by decide) ?_
            refine lv_goto (tgt := 83) hx hb dX3_executeFirstQuarter_79 (by decide) ?_
            exact J18 true hf.symm H locs ls (lv_sub hl [0, 1, 2] rfl) hP hD hS
      · have hf := hf.trans (kf_le c11)
        refine lv_iconst (v := 0) hx hb dX3_executeFirstQuarter_58 (by decide) ?_
        refine lv_goto (tgt := 86) hx hb dX3_executeFirstQuarter_59 (by decide) ?_
        rw [← hQ]
        exact W.iret (v := (0 : Int32)) hx hb hr (fun t ht hW => ⟨⟨(0 : Int32), (b7, b8, b9), rfl, hf.symm, by rw [ht]; exact hP, va_K.moved hW.alike hK, hD⟩, hS.F ht⟩) hS.2.2 dX3_executeFirstQuarter_86
    have hf := hTJ10
    refine lv_icmp_ne (tgt := 53) hx hb dX3_executeFirstQuarter_46 (by decide) (fun c2 => ?_) (fun c2 => ?_)
    · have hf := hf.trans (kf_eq c2)
      exact J10 v_by v_ct v_wd hf.symm H locs ls (lv_sub hl [0, 1, 2] rfl) hP hD hS
    · have hf := hf.trans (kt_eq c2)
      refine lv_aload_n hx hb dX3_executeFirstQuarter_49 rfl (lv_at hl 0 rfl) ?_
      refine kc_Vv (wr := []) (As := []) (rest := []) (fun u9 => (kX3 cB cI gc me ba rg wa sm v_im v_ei v_ha v_hb v_cy (u9.1) (u9.2.1) (u9.2.2))) ⟨hx, hb, hml, hown, hws⟩ hK hP hD hS hA hT (c_X3_storeSp l D cB cI gc me ba rg wa sm H.size v_im v_ei v_ha v_hb v_cy v_by v_ct v_wd ) (cwV 0 hws (gw_V mw_231 mw_232 mw_233 mw_2 mw_234) rfl rfl rfl hdX3_storeSp ⟨Nat.le_of_ble_eq_true rfl, Nat.le_of_ble_eq_true rfl⟩) [0, 1, 2, 3, 4, 5] [] [0, 1] [0, 1, 2, 3, 4, 5] rfl rfl rfl rfl (by decide) rfl (fun _ => rfl) rfl 0 rfl rfl rfl rfl hl.1 rfl (Nat.le_of_ble_eq_true rfl) dX3_executeFirstQuarter_50 ⟨Nat.zero_le _, Nat.zero_le _⟩ (fun u9 H locs hw6 hP hD hS => ?_)
      obtain ⟨b3, b4, b5⟩ := u9
      have hP : va_P D vwCl (kX3 cB cI gc me ba rg wa sm v_im v_ei v_ha v_hb v_cy b3 b4 b5) H := hP
      have hD : va_D A (kX3 cB cI gc me ba rg wa sm v_im v_ei v_ha v_hb v_cy b3 b4 b5) := hD
      have hf := hf.trans (kE3 hw6)
      exact J10 b3 b4 b5 hf.symm H locs ls (lv_sub hl [0, 1, 2] rfl) hP hD hS
  · have hf := hf.trans (kf_eq c1)
    by_cases c22 : a2 = (1 : Int32)
    · have hf := hf.trans (kt_eq c22)
      refine lv_tableIn (off := 86) (tgt := 87) hx hb dX3_executeFirstQuarter_1 (by rw [c22]; decide) (by rw [c22]; decide) (by rw [c22]; decide) (by decide) ?_
      refine lv_aload_n hx hb dX3_executeFirstQuarter_87 rfl (lv_at hl 0 rfl) ?_
      refine lv_iload_n hx hb dX3_executeFirstQuarter_88 rfl (lv_at hl 1 rfl) ?_
      refine kc_Vv (wr := []) (As := [.int a1]) (rest := []) (fun u9 => (kX3 cB cI gc me ba rg wa sm v_im v_ei v_ha v_hb v_cy v_by v_ct u9)) ⟨hx, hb, hml, hown, hws⟩ hK hP hD hS hA hT (c_X3_loadOrAddWord l D cB cI gc me ba rg wa sm H.size v_im v_ei v_ha v_hb v_cy v_by v_ct v_wd a1) (cwV 1 hws (gw_V mw_248 mw_249 mw_250 mw_2 mw_251) rfl rfl rfl hdX3_loadOrAddWord ⟨Nat.le_of_ble_eq_true rfl, Nat.le_of_ble_eq_true rfl⟩) [0, 1, 2, 3, 4, 5] [] [0, 1] [0, 1, 2, 3, 4, 5] rfl rfl rfl rfl (by decide) rfl (fun _ => rfl) rfl 0 rfl rfl rfl rfl hl.1 rfl (Nat.le_of_ble_eq_true rfl) dX3_executeFirstQuarter_89 ⟨Nat.zero_le _, Nat.zero_le _⟩ (fun b23 H locs hw24 hP hD hS => ?_)
      have hP : va_P D vwCl (kX3 cB cI gc me ba rg wa sm v_im v_ei v_ha v_hb v_cy v_by v_ct b23) H := hP
      have hD : va_D A (kX3 cB cI gc me ba rg wa sm v_im v_ei v_ha v_hb v_cy v_by v_ct b23) := hD
      have hf := hf.trans (kE1 hw24)
      refine lv_iconst (v := 0) hx hb dX3_executeFirstQuarter_92 (by decide) ?_
      rw [← hQ]
      exact W.iret (v := (0 : Int32)) hx hb hr (fun t ht hW => ⟨⟨(0 : Int32), (v_by, v_ct, b23), rfl, hf.symm, by rw [ht]; exact hP, va_K.moved hW.alike hK, hD⟩, hS.F ht⟩) hS.2.2 dX3_executeFirstQuarter_93
    · have hf := hf.trans (kf_eq c22)
      by_cases c25 : a2 = (2 : Int32)
      · have hf := hf.trans (kt_eq c25)
        refine lv_tableIn (off := 93) (tgt := 94) hx hb dX3_executeFirstQuarter_1 (by rw [c25]; decide) (by rw [c25]; decide) (by rw [c25]; decide) (by decide) ?_
        refine lv_aload_n hx hb dX3_executeFirstQuarter_94 rfl (lv_at hl 0 rfl) ?_
        refine lv_iload_n hx hb dX3_executeFirstQuarter_95 rfl (lv_at hl 1 rfl) ?_
        refine kc_Vv (wr := []) (As := [.int a1]) (rest := []) (fun u9 => (kX3 cB cI gc me ba rg wa sm v_im v_ei v_ha v_hb v_cy (u9.1) (u9.2.1) (u9.2.2))) ⟨hx, hb, hml, hown, hws⟩ hK hP hD hS hA hT (c_X3_loadByPair l D cB cI gc me ba rg wa sm H.size v_im v_ei v_ha v_hb v_cy v_by v_ct v_wd a1) (cwV 1 hws (gw_V mw_259 mw_260 mw_261 mw_2 mw_262) rfl rfl rfl hdX3_loadByPair ⟨Nat.le_of_ble_eq_true rfl, Nat.le_of_ble_eq_true rfl⟩) [0, 1, 2, 3, 4, 5] [] [0, 1] [0, 1, 2, 3, 4, 5] rfl rfl rfl rfl (by decide) rfl (fun _ => rfl) rfl 0 rfl rfl rfl rfl hl.1 rfl (Nat.le_of_ble_eq_true rfl) dX3_executeFirstQuarter_96 ⟨Nat.zero_le _, Nat.zero_le _⟩ (fun u9 H locs hw29 hP hD hS => ?_)
        obtain ⟨b26, b27, b28⟩ := u9
        have hP : va_P D vwCl (kX3 cB cI gc me ba rg wa sm v_im v_ei v_ha v_hb v_cy b26 b27 b28) H := hP
        have hD : va_D A (kX3 cB cI gc me ba rg wa sm v_im v_ei v_ha v_hb v_cy b26 b27 b28) := hD
        have hf := hf.trans (kE3 hw29)
        refine lv_iconst (v := 0) hx hb dX3_executeFirstQuarter_99 (by decide) ?_
        rw [← hQ]
        exact W.iret (v := (0 : Int32)) hx hb hr (fun t ht hW => ⟨⟨(0 : Int32), (b26, b27, b28), rfl, hf.symm, by rw [ht]; exact hP, va_K.moved hW.alike hK, hD⟩, hS.F ht⟩) hS.2.2 dX3_executeFirstQuarter_100
      · have hf := hf.trans (kf_eq c25)
        by_cases c30 : a2 = (3 : Int32)
        · have hf := hf.trans (kt_eq c30)
          refine lv_tableIn (off := 100) (tgt := 101) hx hb dX3_executeFirstQuarter_1 (by rw [c30]; decide) (by rw [c30]; decide) (by rw [c30]; decide) (by decide) ?_
          refine lv_aload_n hx hb dX3_executeFirstQuarter_101 rfl (lv_at hl 0 rfl) ?_
          refine lv_iload_n hx hb dX3_executeFirstQuarter_102 rfl (lv_at hl 1 rfl) ?_
          refine kc_Vv (wr := []) (As := [.int a1]) (rest := []) (fun u9 => (kX3 cB cI gc me ba rg wa sm v_im v_ei v_ha v_hb v_cy v_by v_ct u9)) ⟨hx, hb, hml, hown, hws⟩ hK hP hD hS hA hT (c_X3_stepPair l D cB cI gc me ba rg wa sm H.size v_im v_ei v_ha v_hb v_cy v_by v_ct v_wd a1) (cwV 1 hws (gw_V mw_275 mw_276 mw_277 mw_2 mw_278) rfl rfl rfl hdX3_stepPair ⟨Nat.le_of_ble_eq_true rfl, Nat.le_of_ble_eq_true rfl⟩) [0, 1, 2, 3, 4, 5] [] [0, 1] [0, 1, 2, 3, 4, 5] rfl rfl rfl rfl (by decide) rfl (fun _ => rfl) rfl 0 rfl rfl rfl rfl hl.1 rfl (Nat.le_of_ble_eq_true rfl) dX3_executeFirstQuarter_103 ⟨Nat.zero_le _, Nat.zero_le _⟩ (fun b31 H locs hw32 hP hD hS => ?_)
          have hP : va_P D vwCl (kX3 cB cI gc me ba rg wa sm v_im v_ei v_ha v_hb v_cy v_by v_ct b31) H := hP
          have hD : va_D A (kX3 cB cI gc me ba rg wa sm v_im v_ei v_ha v_hb v_cy v_by v_ct b31) := hD
          have hf := hf.trans (kE1 hw32)
          refine lv_iconst (v := 0) hx hb dX3_executeFirstQuarter_106 (by decide) ?_
          rw [← hQ]
          exact W.iret (v := (0 : Int32)) hx hb hr (fun t ht hW => ⟨⟨(0 : Int32), (v_by, v_ct, b31), rfl, hf.symm, by rw [ht]; exact hP, va_K.moved hW.alike hK, hD⟩, hS.F ht⟩) hS.2.2 dX3_executeFirstQuarter_107
        · have hf := hf.trans (kf_eq c30)
          by_cases c33 : a2 = (4 : Int32)
          · have hf := hf.trans (kt_eq c33)
            refine lv_tableIn (off := 107) (tgt := 108) hx hb dX3_executeFirstQuarter_1 (by rw [c33]; decide) (by rw [c33]; decide) (by rw [c33]; decide) (by decide) ?_
            refine lv_aload_n hx hb dX3_executeFirstQuarter_108 rfl (lv_at hl 0 rfl) ?_
            refine lv_iload_n hx hb dX3_executeFirstQuarter_109 rfl (lv_at hl 1 rfl) ?_
            refine lv_aload_n hx hb dX3_executeFirstQuarter_110 rfl (lv_at hl 0 rfl) ?_
            refine va_get (D := D) (ci := 3) (v := .ref sm) (C := RX3) (T := TX3) (N := 8) hx hb hws inlX3 hown hK hP 0 rfl rfl 2 (by decide) (hws _ mw_19) (fun _ h9 => h9) rfl dX3_executeFirstQuarter_111 ?_
            refine lv_aload_n hx hb dX3_executeFirstQuarter_114 rfl (lv_at hl 0 rfl) ?_
            refine lv_iload_n hx hb dX3_executeFirstQuarter_115 rfl (lv_at hl 1 rfl) ?_
            refine kc_Vi (wr := []) (As := [.int a1]) (rest := [.ref sm, .int a1, .ref gc]) (fun _ => (kX3 cB cI gc me ba rg wa sm v_im v_ei v_ha v_hb v_cy v_by v_ct v_wd)) ⟨hx, hb, hml, hown, hws⟩ hK hP hD hS hA hT (c_X3_operand l D cB cI gc me ba rg wa sm H.size v_im v_ei v_ha v_hb v_cy v_by v_ct v_wd a1) (cwV 1 hws (gw_V mw_185 mw_186 mw_187 mw_2 mw_188) rfl rfl rfl hdX3_operand ⟨Nat.le_of_ble_eq_true rfl, Nat.le_of_ble_eq_true rfl⟩) [0, 1, 2, 3, 4, 5] [] [0, 1] [0, 1, 2, 3, 4, 5] rfl rfl rfl rfl (by decide) rfl (fun _ => rfl) rfl 0 rfl rfl rfl rfl hl.1 rfl (Nat.le_of_ble_eq_true rfl) dX3_executeFirstQuarter_116 ⟨Nat.zero_le _, Nat.zero_le _⟩ (fun r35 _ H locs hw34 hP hD hS => ?_)
            have hP : va_P D vwCl (kX3 cB cI gc me ba rg wa sm v_im v_ei v_ha v_hb v_cy v_by v_ct v_wd) H := hP
            have hD : va_D A (kX3 cB cI gc me ba rg wa sm v_im v_ei v_ha v_hb v_cy v_by v_ct v_wd) := hD
            have hf := hf.trans (kE1 hw34)
            refine kc_Vi (wr := [(gc, .inr (3, [.ref me, .ref rg, .ref sm, .int (bI v_im), .int (bI v_ei), .int (bI v_ha), .int (bI v_hb), .int v_cy])), (me, .inr (0, [.ref ba, .int v_ct])), (ba, .inl (cB, 65536, .inl v_by))]) (As := [.int r35]) (rest := [.int a1, .ref gc]) (fun u9 => (kX3 cB cI gc me ba rg wa sm v_im v_ei v_ha v_hb v_cy v_by v_ct u9)) ⟨hx, hb, hml, hown, hws⟩ hK hP hD hS hA hT (c_X2_increment l D cI sm rg wa H.size v_wd r35) (cwV 1 hws (gw_V mw_279 mw_280 mw_281 mw_18 mw_282) rfl rfl rfl hdX2_increment ⟨Nat.le_of_ble_eq_true rfl, Nat.le_of_ble_eq_true rfl⟩) [5, 3, 4] [0, 1, 2] [1] [0, 1, 2, 4, 5, 3] rfl rfl rfl rfl (by decide) rfl (fun _ => rfl) rfl 5 rfl rfl rfl rfl hl.1 rfl (Nat.le_of_ble_eq_true rfl) dX3_executeFirstQuarter_119 ⟨Nat.zero_le _, Nat.zero_le _⟩ (fun r38 b36 H locs hw37 hP hD hS => ?_)
            have hP : va_P D vwCl (kX3 cB cI gc me ba rg wa sm v_im v_ei v_ha v_hb v_cy v_by v_ct b36) H := hP
            have hD : va_D A (kX3 cB cI gc me ba rg wa sm v_im v_ei v_ha v_hb v_cy v_by v_ct b36) := hD
            have hf := hf.trans (kE2 hw37)
            refine kc_Vv (wr := []) (As := [.int a1, .int r38]) (rest := []) (fun u9 => (kX3 cB cI gc me ba rg wa sm v_im v_ei v_ha v_hb v_cy (u9.1) (u9.2.1) (u9.2.2))) ⟨hx, hb, hml, hown, hws⟩ hK hP hD hS hA hT (c_X3_setOperand l D cB cI gc me ba rg wa sm H.size v_im v_ei v_ha v_hb v_cy v_by v_ct b36 a1 r38) (cwV 2 hws (gw_V mw_215 mw_216 mw_217 mw_2 mw_218) rfl rfl rfl hdX3_setOperand ⟨Nat.le_of_ble_eq_true rfl, Nat.le_of_ble_eq_true rfl⟩) [0, 1, 2, 3, 4, 5] [] [0, 1] [0, 1, 2, 3, 4, 5] rfl rfl rfl rfl (by decide) rfl (fun _ => rfl) rfl 0 rfl rfl rfl rfl hl.1 rfl (Nat.le_of_ble_eq_true rfl) dX3_executeFirstQuarter_122 ⟨Nat.zero_le _, Nat.zero_le _⟩ (fun u9 H locs hw42 hP hD hS => ?_)
            obtain ⟨b39, b40, b41⟩ := u9
            have hP : va_P D vwCl (kX3 cB cI gc me ba rg wa sm v_im v_ei v_ha v_hb v_cy b39 b40 b41) H := hP
            have hD : va_D A (kX3 cB cI gc me ba rg wa sm v_im v_ei v_ha v_hb v_cy b39 b40 b41) := hD
            have hf := hf.trans (kE3 hw42)
            refine lv_iconst (v := 0) hx hb dX3_executeFirstQuarter_125 (by decide) ?_
            rw [← hQ]
            exact W.iret (v := (0 : Int32)) hx hb hr (fun t ht hW => ⟨⟨(0 : Int32), (b39, b40, b41), rfl, hf.symm, by rw [ht]; exact hP, va_K.moved hW.alike hK, hD⟩, hS.F ht⟩) hS.2.2 dX3_executeFirstQuarter_126
          · have hf := hf.trans (kf_eq c33)
            by_cases c43 : a2 = (5 : Int32)
            · have hf := hf.trans (kt_eq c43)
              refine lv_tableIn (off := 126) (tgt := 127) hx hb dX3_executeFirstQuarter_1 (by rw [c43]; decide) (by rw [c43]; decide) (by rw [c43]; decide) (by decide) ?_
              refine lv_aload_n hx hb dX3_executeFirstQuarter_127 rfl (lv_at hl 0 rfl) ?_
              refine lv_iload_n hx hb dX3_executeFirstQuarter_128 rfl (lv_at hl 1 rfl) ?_
              refine lv_aload_n hx hb dX3_executeFirstQuarter_129 rfl (lv_at hl 0 rfl) ?_
              refine va_get (D := D) (ci := 3) (v := .ref sm) (C := RX3) (T := TX3) (N := 8) hx hb hws inlX3 hown hK hP 0 rfl rfl 2 (by decide) (hws _ mw_19) (fun _ h9 => h9) rfl dX3_executeFirstQuarter_130 ?_
              refine lv_aload_n hx hb dX3_executeFirstQuarter_133 rfl (lv_at hl 0 rfl) ?_
              refine lv_iload_n hx hb dX3_executeFirstQuarter_134 rfl (lv_at hl 1 rfl) ?_
              refine kc_Vi (wr := []) (As := [.int a1]) (rest := [.ref sm, .int a1, .ref gc]) (fun _ => (kX3 cB cI gc me ba rg wa sm v_im v_ei v_ha v_hb v_cy v_by v_ct v_wd)) ⟨hx, hb, hml, hown, hws⟩ hK hP hD hS hA hT (c_X3_operand l D cB cI gc me ba rg wa sm H.size v_im v_ei v_ha v_hb v_cy v_by v_ct v_wd a1) (cwV 1 hws (gw_V mw_185 mw_186 mw_187 mw_2 mw_188) rfl rfl rfl hdX3_operand ⟨Nat.le_of_ble_eq_true rfl, Nat.le_of_ble_eq_true rfl⟩) [0, 1, 2, 3, 4, 5] [] [0, 1] [0, 1, 2, 3, 4, 5] rfl rfl rfl rfl (by decide) rfl (fun _ => rfl) rfl 0 rfl rfl rfl rfl hl.1 rfl (Nat.le_of_ble_eq_true rfl) dX3_executeFirstQuarter_135 ⟨Nat.zero_le _, Nat.zero_le _⟩ (fun r45 _ H locs hw44 hP hD hS => ?_)
              have hP : va_P D vwCl (kX3 cB cI gc me ba rg wa sm v_im v_ei v_ha v_hb v_cy v_by v_ct v_wd) H := hP
              have hD : va_D A (kX3 cB cI gc me ba rg wa sm v_im v_ei v_ha v_hb v_cy v_by v_ct v_wd) := hD
              have hf := hf.trans (kE1 hw44)
              refine kc_Vi (wr := [(gc, .inr (3, [.ref me, .ref rg, .ref sm, .int (bI v_im), .int (bI v_ei), .int (bI v_ha), .int (bI v_hb), .int v_cy])), (me, .inr (0, [.ref ba, .int v_ct])), (ba, .inl (cB, 65536, .inl v_by))]) (As := [.int r45]) (rest := [.int a1, .ref gc]) (fun u9 => (kX3 cB cI gc me ba rg wa sm v_im v_ei v_ha v_hb v_cy v_by v_ct u9)) ⟨hx, hb, hml, hown, hws⟩ hK hP hD hS hA hT (c_X2_decrement l D cI sm rg wa H.size v_wd r45) (cwV 1 hws (gw_V mw_283 mw_284 mw_285 mw_18 mw_286) rfl rfl rfl hdX2_decrement ⟨Nat.le_of_ble_eq_true rfl, Nat.le_of_ble_eq_true rfl⟩) [5, 3, 4] [0, 1, 2] [1] [0, 1, 2, 4, 5, 3] rfl rfl rfl rfl (by decide) rfl (fun _ => rfl) rfl 5 rfl rfl rfl rfl hl.1 rfl (Nat.le_of_ble_eq_true rfl) dX3_executeFirstQuarter_138 ⟨Nat.zero_le _, Nat.zero_le _⟩ (fun r48 b46 H locs hw47 hP hD hS => ?_)
              have hP : va_P D vwCl (kX3 cB cI gc me ba rg wa sm v_im v_ei v_ha v_hb v_cy v_by v_ct b46) H := hP
              have hD : va_D A (kX3 cB cI gc me ba rg wa sm v_im v_ei v_ha v_hb v_cy v_by v_ct b46) := hD
              have hf := hf.trans (kE2 hw47)
              refine kc_Vv (wr := []) (As := [.int a1, .int r48]) (rest := []) (fun u9 => (kX3 cB cI gc me ba rg wa sm v_im v_ei v_ha v_hb v_cy (u9.1) (u9.2.1) (u9.2.2))) ⟨hx, hb, hml, hown, hws⟩ hK hP hD hS hA hT (c_X3_setOperand l D cB cI gc me ba rg wa sm H.size v_im v_ei v_ha v_hb v_cy v_by v_ct b46 a1 r48) (cwV 2 hws (gw_V mw_215 mw_216 mw_217 mw_2 mw_218) rfl rfl rfl hdX3_setOperand ⟨Nat.le_of_ble_eq_true rfl, Nat.le_of_ble_eq_true rfl⟩) [0, 1, 2, 3, 4, 5] [] [0, 1] [0, 1, 2, 3, 4, 5] rfl rfl rfl rfl (by decide) rfl (fun _ => rfl) rfl 0 rfl rfl rfl rfl hl.1 rfl (Nat.le_of_ble_eq_true rfl) dX3_executeFirstQuarter_141 ⟨Nat.zero_le _, Nat.zero_le _⟩ (fun u9 H locs hw52 hP hD hS => ?_)
              obtain ⟨b49, b50, b51⟩ := u9
              have hP : va_P D vwCl (kX3 cB cI gc me ba rg wa sm v_im v_ei v_ha v_hb v_cy b49 b50 b51) H := hP
              have hD : va_D A (kX3 cB cI gc me ba rg wa sm v_im v_ei v_ha v_hb v_cy b49 b50 b51) := hD
              have hf := hf.trans (kE3 hw52)
              refine lv_iconst (v := 0) hx hb dX3_executeFirstQuarter_144 (by decide) ?_
              rw [← hQ]
              exact W.iret (v := (0 : Int32)) hx hb hr (fun t ht hW => ⟨⟨(0 : Int32), (b49, b50, b51), rfl, hf.symm, by rw [ht]; exact hP, va_K.moved hW.alike hK, hD⟩, hS.F ht⟩) hS.2.2 dX3_executeFirstQuarter_145
            · have hf := hf.trans (kf_eq c43)
              by_cases c53 : a2 = (6 : Int32)
              · have hf := hf.trans (kt_eq c53)
                refine lv_tableIn (off := 145) (tgt := 146) hx hb dX3_executeFirstQuarter_1 (by rw [c53]; decide) (by rw [c53]; decide) (by rw [c53]; decide) (by decide) ?_
                refine lv_aload_n hx hb dX3_executeFirstQuarter_146 rfl (lv_at hl 0 rfl) ?_
                refine lv_iload_n hx hb dX3_executeFirstQuarter_147 rfl (lv_at hl 1 rfl) ?_
                refine lv_aload_n hx hb dX3_executeFirstQuarter_148 rfl (lv_at hl 0 rfl) ?_
                refine kc_Vi (wr := []) (As := []) (rest := [.int a1, .ref gc]) (fun u9 => (kX3 cB cI gc me ba rg wa sm v_im v_ei v_ha v_hb v_cy v_by v_ct u9)) ⟨hx, hb, hml, hown, hws⟩ hK hP hD hS hA hT (c_X3_fetch l D cB cI gc me ba rg wa sm H.size v_im v_ei v_ha v_hb v_cy v_by v_ct v_wd ) (cwV 0 hws (gw_V mw_181 mw_182 mw_183 mw_2 mw_184) rfl rfl rfl hdX3_fetch ⟨Nat.le_of_ble_eq_true rfl, Nat.le_of_ble_eq_true rfl⟩) [0, 1, 2, 3, 4, 5] [] [0, 1] [0, 1, 2, 3, 4, 5] rfl rfl rfl rfl (by decide) rfl (fun _ => rfl) rfl 0 rfl rfl rfl rfl hl.1 rfl (Nat.le_of_ble_eq_true rfl) dX3_executeFirstQuarter_149 ⟨Nat.zero_le _, Nat.zero_le _⟩ (fun r56 b54 H locs hw55 hP hD hS => ?_)
                have hP : va_P D vwCl (kX3 cB cI gc me ba rg wa sm v_im v_ei v_ha v_hb v_cy v_by v_ct b54) H := hP
                have hD : va_D A (kX3 cB cI gc me ba rg wa sm v_im v_ei v_ha v_hb v_cy v_by v_ct b54) := hD
                have hf := hf.trans (kE2 hw55)
                refine kc_Vv (wr := []) (As := [.int a1, .int r56]) (rest := []) (fun u9 => (kX3 cB cI gc me ba rg wa sm v_im v_ei v_ha v_hb v_cy (u9.1) (u9.2.1) (u9.2.2))) ⟨hx, hb, hml, hown, hws⟩ hK hP hD hS hA hT (c_X3_setOperand l D cB cI gc me ba rg wa sm H.size v_im v_ei v_ha v_hb v_cy v_by v_ct b54 a1 r56) (cwV 2 hws (gw_V mw_215 mw_216 mw_217 mw_2 mw_218) rfl rfl rfl hdX3_setOperand ⟨Nat.le_of_ble_eq_true rfl, Nat.le_of_ble_eq_true rfl⟩) [0, 1, 2, 3, 4, 5] [] [0, 1] [0, 1, 2, 3, 4, 5] rfl rfl rfl rfl (by decide) rfl (fun _ => rfl) rfl 0 rfl rfl rfl rfl hl.1 rfl (Nat.le_of_ble_eq_true rfl) dX3_executeFirstQuarter_152 ⟨Nat.zero_le _, Nat.zero_le _⟩ (fun u9 H locs hw60 hP hD hS => ?_)
                obtain ⟨b57, b58, b59⟩ := u9
                have hP : va_P D vwCl (kX3 cB cI gc me ba rg wa sm v_im v_ei v_ha v_hb v_cy b57 b58 b59) H := hP
                have hD : va_D A (kX3 cB cI gc me ba rg wa sm v_im v_ei v_ha v_hb v_cy b57 b58 b59) := hD
                have hf := hf.trans (kE3 hw60)
                refine lv_iconst (v := 0) hx hb dX3_executeFirstQuarter_155 (by decide) ?_
                rw [← hQ]
                exact W.iret (v := (0 : Int32)) hx hb hr (fun t ht hW => ⟨⟨(0 : Int32), (b57, b58, b59), rfl, hf.symm, by rw [ht]; exact hP, va_K.moved hW.alike hK, hD⟩, hS.F ht⟩) hS.2.2 dX3_executeFirstQuarter_156
              · have hf := hf.trans (kf_eq c53)
                refine lv_tableOut (tgt := 157) hx hb dX3_executeFirstQuarter_1 (by have n0 := lv_neT c1 (a := 0) rfl; have n1 := lv_neT c22 (a := 1) rfl; have n2 := lv_neT c25 (a := 2) rfl; have n3 := lv_neT c30 (a := 3) rfl; have n4 := lv_neT c33 (a := 4) rfl; have n5 := lv_neT c43 (a := 5) rfl; have n6 := lv_neT c53 (a := 6) rfl; omega) (by decide) ?_
                refine lv_aload_n hx hb dX3_executeFirstQuarter_157 rfl (lv_at hl 0 rfl) ?_
                refine va_get (D := D) (ci := 3) (v := .ref sm) (C := RX3) (T := TX3) (N := 8) hx hb hws inlX3 hown hK hP 0 rfl rfl 2 (by decide) (hws _ mw_19) (fun _ h9 => h9) rfl dX3_executeFirstQuarter_158 ?_
                refine lv_iload_n hx hb dX3_executeFirstQuarter_161 rfl (lv_at hl 1 rfl) ?_
                refine kc_Vv (wr := [(gc, .inr (3, [.ref me, .ref rg, .ref sm, .int (bI v_im), .int (bI v_ei), .int (bI v_ha), .int (bI v_hb), .int v_cy])), (me, .inr (0, [.ref ba, .int v_ct])), (ba, .inl (cB, 65536, .inl v_by))]) (As := [.int a1]) (rest := []) (fun u9 => (kX3 cB cI gc me ba rg wa sm v_im v_ei v_ha v_hb v_cy v_by v_ct u9)) ⟨hx, hb, hml, hown, hws⟩ hK hP hD hS hA hT (c_X2_changeA l D cI sm rg wa H.size v_wd a1) (cwV 1 hws (gw_V mw_287 mw_288 mw_289 mw_18 mw_290) rfl rfl rfl hdX2_changeA ⟨Nat.le_of_ble_eq_true rfl, Nat.le_of_ble_eq_true rfl⟩) [5, 3, 4] [0, 1, 2] [1] [0, 1, 2, 4, 5, 3] rfl rfl rfl rfl (by decide) rfl (fun _ => rfl) rfl 5 rfl rfl rfl rfl hl.1 rfl (Nat.le_of_ble_eq_true rfl) dX3_executeFirstQuarter_162 ⟨Nat.zero_le _, Nat.zero_le _⟩ (fun b61 H locs hw62 hP hD hS => ?_)
                have hP : va_P D vwCl (kX3 cB cI gc me ba rg wa sm v_im v_ei v_ha v_hb v_cy v_by v_ct b61) H := hP
                have hD : va_D A (kX3 cB cI gc me ba rg wa sm v_im v_ei v_ha v_hb v_cy v_by v_ct b61) := hD
                have hf := hf.trans (kE1 hw62)
                refine lv_iconst (v := 0) hx hb dX3_executeFirstQuarter_165 (by decide) ?_
                rw [← hQ]
                exact W.iret (v := (0 : Int32)) hx hb hr (fun t ht hW => ⟨⟨(0 : Int32), (v_by, v_ct, b61), rfl, hf.symm, by rw [ht]; exact hP, va_K.moved hW.alike hK, hD⟩, hS.F ht⟩) hS.2.2 dX3_executeFirstQuarter_166
def fX3_pop (v_by : Nat → Int32) (v_wd : Nat → Int32)  : Int32 × (Nat → Int32) := (kU1 (fX1_word v_wd (4 : Int32)) (fun (r2 : Int32) => (kU2 (fX1_setWord v_wd (4 : Int32) (r2 + (2 : Int32))) (fun (z6 : Bool) (b3 : Nat → Int32) => (kU1 (fX0_at v_by r2) (fun (r8 : Int32) => (kU1 (fX0_at v_by (r2 + (1 : Int32))) (fun (r10 : Int32) => ((r8 ||| (r10 <<< ((8 : Int32) &&& (31 : Int32)))), b3)))))))))
def rmX3_pop : Room := { frames := 1, cells := 0, slots := 0, locals := 22 }
def wwX3_pop : List Cond := Cond.code yX3_pop cX3_pop 2 (some .int) :: wsL_law
theorem hdX3_pop : yX3_pop.cls = RX3 ∧ yX3_pop.cls ≠ "java/lang/invoke/MethodHandle" ∧ yX3_pop.cls ≠ "java/lang/invoke/VarHandle" ∧ (parseMethodDescriptor yX3_pop.desc).map (fun d => d.parameters.length) = some 0 := by decide +kernel
set_option maxHeartbeats 4000000 in
set_option maxRecDepth 100000 in
theorem c_X3_pop (l : Launch) (D : va_G) (cB : ClassId) (cI : ClassId) (gc me ba rg wa sm sz : Nat) (v_im : Bool) (v_ei : Bool) (v_ha : Bool) (v_hb : Bool) (v_cy : Int32) (v_by : Nat → Int32) (v_ct : Int32) (v_wd : Nat → Int32)   : Met l yX3_pop wwX3_pop rmX3_pop (va_Pc [.ref gc] (kp D (kX3 cB cI gc me ba rg wa sm v_im v_ei v_ha v_hb v_cy v_by v_ct v_wd) [(cB, .byte), (cI, .int)] sz)) (va_Qi (fun (r : Int32) (u9 : (Nat → Int32)) => (r, u9) = fX3_pop v_by v_wd) (fun u9 t => kq D (kX3 cB cI gc me ba rg wa sm v_im v_ei v_ha v_hb v_cy v_by v_ct u9) [(cB, .byte), (cI, .int)] (va_A (kX3 cB cI gc me ba rg wa sm v_im v_ei v_ha v_hb v_cy v_by v_ct v_wd) sz) t) (va_A (kX3 cB cI gc me ba rg wa sm v_im v_ei v_ha v_hb v_cy v_by v_ct v_wd) sz)) 0 0 (va_A (kX3 cB cI gc me ba rg wa sm v_im v_ei v_ha v_hb v_cy v_by v_ct v_wd) sz) := by
  refine Met.ofW (cc := cX3_pop) (maxL := 2) (ret := (some .int)) (by decide) rfl ?_
  intro p e s m args below meth c s₁ B hml hv
  obtain ⟨rfl, hsz, hP, hK, hD0, hT⟩ := hv
  have hx := B.exec
  have hb := B.bytes
  have hr := B.returns
  have hts := atoms_spec (ws := wwX3_pop) B.pre
  have hws : ∀ w ∈ wsL_law, w.before _ s = true := fun w h => hts w (List.mem_cons_of_mem _ h)
  have hown : s.vm.findClass RX3 = some m.cls := findClass_of_methodNamed B.named
  have hlocks := B.notSynchronized
  subst hsz
  have hD := hD0.self (sz := s.heap.size)
  generalize hAe : va_A (kX3 cB cI gc me ba rg wa sm v_im v_ei v_ha v_hb v_cy v_by v_ct v_wd) s.heap.size = A at hD hT ⊢
  have hA : ∀ q : Nat, s.heap.size ≤ q → A q := fun q h => by rw [← hAe]; exact Or.inr h
  have hS : va_S A s.heap s.heap [] := va_S.rf
  have hl := lv_entry ([.ref gc]) (n := 2) (Nat.le_of_ble_eq_true rfl)
  rw [lg_entry_eq]
  generalize (lg_sl ([.ref gc]) ++ List.replicate (2 - (lg_sl ([.ref gc])).length) Slot.unset).toArray = ls at hl ⊢
  have hl : lv_has ls 2 [(0, .ref gc)] := hl
  generalize hQ : MQ _ _ _ _ _ _ _ = Q
  obtain ⟨H, hHe⟩ : ∃ H : Heap, H = s.heap := ⟨_, rfl⟩
  obtain ⟨locs, hle⟩ : ∃ L : List Loc, L = [] := ⟨_, rfl⟩
  have hP : va_P D vwCl (kX3 cB cI gc me ba rg wa sm v_im v_ei v_ha v_hb v_cy v_by v_ct v_wd) H := by rw [hHe]; exact hP
  have hS : va_S A s.heap H locs := by rw [hHe, hle]; exact hS
  refine kw_start hHe.symm hle.symm ?_
  have hf : fX3_pop v_by v_wd = fX3_pop v_by v_wd := rfl
  refine lv_aload_n hx hb dX3_pop_0 rfl (lv_at hl 0 rfl) ?_
  refine va_get (D := D) (ci := 3) (v := .ref rg) (C := RX3) (T := TX3) (N := 8) hx hb hws inlX3 hown hK hP 0 rfl rfl 1 (by decide) (hws _ mw_20) (fun _ h9 => h9) rfl dX3_pop_1 ?_
  refine lv_iconst (v := 4) hx hb dX3_pop_4 (by decide) ?_
  refine kc_Vi (wr := [(gc, .inr (3, [.ref me, .ref rg, .ref sm, .int (bI v_im), .int (bI v_ei), .int (bI v_ha), .int (bI v_hb), .int v_cy])), (me, .inr (0, [.ref ba, .int v_ct])), (ba, .inl (cB, 65536, .inl v_by)), (sm, .inr (2, [.ref rg]))]) (As := [.int (4 : Int32)]) (rest := []) (fun _ => (kX3 cB cI gc me ba rg wa sm v_im v_ei v_ha v_hb v_cy v_by v_ct v_wd)) ⟨hx, hb, hml, hown, hws⟩ hK hP hD hS hA hT (c_X1_word l D cI rg wa H.size v_wd (4 : Int32)) (cwV 1 hws (gw_V mw_123 mw_124 mw_125 mw_32 mw_126) rfl rfl rfl hdX1_word ⟨Nat.le_of_ble_eq_true rfl, Nat.le_of_ble_eq_true rfl⟩) [3, 4] [0, 1, 2, 5] [1] [0, 1, 2, 4, 5, 3] rfl rfl rfl rfl (by decide) rfl (fun _ => rfl) rfl 3 rfl rfl rfl rfl hl.1 rfl (Nat.le_of_ble_eq_true rfl) dX3_pop_5 ⟨Nat.zero_le _, Nat.zero_le _⟩ (fun r2 _ H locs hw1 hP hD hS => ?_)
  have hP : va_P D vwCl (kX3 cB cI gc me ba rg wa sm v_im v_ei v_ha v_hb v_cy v_by v_ct v_wd) H := hP
  have hD : va_D A (kX3 cB cI gc me ba rg wa sm v_im v_ei v_ha v_hb v_cy v_by v_ct v_wd) := hD
  have hf := hf.trans (kE1 hw1)
  refine lv_istore_n (lv' := [(1, .int r2), (0, .ref gc)]) hx hb dX3_pop_8 rfl hl (by decide) rfl (fun ls hl => ?_)
  refine lv_aload_n hx hb dX3_pop_9 rfl (lv_at hl 1 rfl) ?_
  refine va_get (D := D) (ci := 3) (v := .ref rg) (C := RX3) (T := TX3) (N := 8) hx hb hws inlX3 hown hK hP 0 rfl rfl 1 (by decide) (hws _ mw_20) (fun _ h9 => h9) rfl dX3_pop_10 ?_
  refine lv_iconst (v := 4) hx hb dX3_pop_13 (by decide) ?_
  refine lv_iload_n hx hb dX3_pop_14 rfl (lv_at hl 0 rfl) ?_
  refine lv_iconst (v := 2) hx hb dX3_pop_15 (by decide) ?_
  refine lv_iadd hx hb dX3_pop_16 ?_
  refine kc_Vi (wr := [(gc, .inr (3, [.ref me, .ref rg, .ref sm, .int (bI v_im), .int (bI v_ei), .int (bI v_ha), .int (bI v_hb), .int v_cy])), (me, .inr (0, [.ref ba, .int v_ct])), (ba, .inl (cB, 65536, .inl v_by)), (sm, .inr (2, [.ref rg]))]) (As := [.int (4 : Int32), .int (r2 + (2 : Int32))]) (rest := []) (fun u9 => (kX3 cB cI gc me ba rg wa sm v_im v_ei v_ha v_hb v_cy v_by v_ct u9)) ⟨hx, hb, hml, hown, hws⟩ hK hP hD hS hA hT (c_X1_setWord l D cI rg wa H.size v_wd (4 : Int32) (r2 + (2 : Int32))) (cwV 2 hws (gw_V mw_137 mw_138 mw_139 mw_32 mw_140) rfl rfl rfl hdX1_setWord ⟨Nat.le_of_ble_eq_true rfl, Nat.le_of_ble_eq_true rfl⟩) [3, 4] [0, 1, 2, 5] [1] [0, 1, 2, 4, 5, 3] rfl rfl rfl rfl (by decide) rfl (fun _ => rfl) rfl 3 rfl rfl rfl rfl hl.1 rfl (Nat.le_of_ble_eq_true rfl) dX3_pop_17 ⟨Nat.zero_le _, Nat.zero_le _⟩ (fun r5 b3 H locs hw4 hP hD hS => ?_)
  obtain ⟨z6, rfl, hw4⟩ := hw4
  have hP : va_P D vwCl (kX3 cB cI gc me ba rg wa sm v_im v_ei v_ha v_hb v_cy v_by v_ct b3) H := hP
  have hD : va_D A (kX3 cB cI gc me ba rg wa sm v_im v_ei v_ha v_hb v_cy v_by v_ct b3) := hD
  have hf := hf.trans (kE2 hw4)
  refine lv_pop hx hb dX3_pop_20 rfl ?_
  refine lv_aload_n hx hb dX3_pop_21 rfl (lv_at hl 1 rfl) ?_
  refine va_get (D := D) (ci := 3) (v := .ref me) (C := RX3) (T := TX3) (N := 8) hx hb hws inlX3 hown hK hP 0 rfl rfl 0 (by decide) (hws _ mw_15) (fun _ h9 => h9) rfl dX3_pop_22 ?_
  refine lv_iload_n hx hb dX3_pop_25 rfl (lv_at hl 0 rfl) ?_
  refine kc_Vi (wr := [(gc, .inr (3, [.ref me, .ref rg, .ref sm, .int (bI v_im), .int (bI v_ei), .int (bI v_ha), .int (bI v_hb), .int v_cy])), (rg, .inr (1, [.ref wa])), (wa, .inl (cI, 6, .inl b3)), (sm, .inr (2, [.ref rg]))]) (As := [.int r2]) (rest := []) (fun _ => (kX3 cB cI gc me ba rg wa sm v_im v_ei v_ha v_hb v_cy v_by v_ct b3)) ⟨hx, hb, hml, hown, hws⟩ hK hP hD hS hA hT (c_X0_at l D cB me ba H.size v_by v_ct r2) (cwV 1 hws (gw_V mw_85 mw_86 mw_87 mw_14 mw_88) rfl rfl rfl hdX0_at ⟨Nat.le_of_ble_eq_true rfl, Nat.le_of_ble_eq_true rfl⟩) [1, 2] [0, 3, 4, 5] [0] [0, 4, 5, 1, 2, 3] rfl rfl rfl rfl (by decide) rfl (fun _ => rfl) rfl 1 rfl rfl rfl rfl hl.1 rfl (Nat.le_of_ble_eq_true rfl) dX3_pop_26 ⟨Nat.zero_le _, Nat.zero_le _⟩ (fun r8 _ H locs hw7 hP hD hS => ?_)
  have hP : va_P D vwCl (kX3 cB cI gc me ba rg wa sm v_im v_ei v_ha v_hb v_cy v_by v_ct b3) H := hP
  have hD : va_D A (kX3 cB cI gc me ba rg wa sm v_im v_ei v_ha v_hb v_cy v_by v_ct b3) := hD
  have hf := hf.trans (kE1 hw7)
  refine lv_aload_n hx hb dX3_pop_29 rfl (lv_at hl 1 rfl) ?_
  refine va_get (D := D) (ci := 3) (v := .ref me) (C := RX3) (T := TX3) (N := 8) hx hb hws inlX3 hown hK hP 0 rfl rfl 0 (by decide) (hws _ mw_15) (fun _ h9 => h9) rfl dX3_pop_30 ?_
  refine lv_iload_n hx hb dX3_pop_33 rfl (lv_at hl 0 rfl) ?_
  refine lv_iconst (v := 1) hx hb dX3_pop_34 (by decide) ?_
  refine lv_iadd hx hb dX3_pop_35 ?_
  refine kc_Vi (wr := [(gc, .inr (3, [.ref me, .ref rg, .ref sm, .int (bI v_im), .int (bI v_ei), .int (bI v_ha), .int (bI v_hb), .int v_cy])), (rg, .inr (1, [.ref wa])), (wa, .inl (cI, 6, .inl b3)), (sm, .inr (2, [.ref rg]))]) (As := [.int (r2 + (1 : Int32))]) (rest := [.int r8]) (fun _ => (kX3 cB cI gc me ba rg wa sm v_im v_ei v_ha v_hb v_cy v_by v_ct b3)) ⟨hx, hb, hml, hown, hws⟩ hK hP hD hS hA hT (c_X0_at l D cB me ba H.size v_by v_ct (r2 + (1 : Int32))) (cwV 1 hws (gw_V mw_85 mw_86 mw_87 mw_14 mw_88) rfl rfl rfl hdX0_at ⟨Nat.le_of_ble_eq_true rfl, Nat.le_of_ble_eq_true rfl⟩) [1, 2] [0, 3, 4, 5] [0] [0, 4, 5, 1, 2, 3] rfl rfl rfl rfl (by decide) rfl (fun _ => rfl) rfl 1 rfl rfl rfl rfl hl.1 rfl (Nat.le_of_ble_eq_true rfl) dX3_pop_36 ⟨Nat.zero_le _, Nat.zero_le _⟩ (fun r10 _ H locs hw9 hP hD hS => ?_)
  have hP : va_P D vwCl (kX3 cB cI gc me ba rg wa sm v_im v_ei v_ha v_hb v_cy v_by v_ct b3) H := hP
  have hD : va_D A (kX3 cB cI gc me ba rg wa sm v_im v_ei v_ha v_hb v_cy v_by v_ct b3) := hD
  have hf := hf.trans (kE1 hw9)
  refine lv_bipush (v := 8) hx hb dX3_pop_39 (by decide) ?_
  refine lv_ishl hx hb dX3_pop_41 ?_
  refine lv_ior hx hb dX3_pop_42 ?_
  rw [← hQ]
  exact W.iret (v := (r8 ||| (r10 <<< ((8 : Int32) &&& (31 : Int32))))) hx hb hr (fun t ht hW => ⟨⟨(r8 ||| (r10 <<< ((8 : Int32) &&& (31 : Int32)))), b3, rfl, hf.symm, by rw [ht]; exact hP, va_K.moved hW.alike hK, hD⟩, hS.F ht⟩) hS.2.2 dX3_pop_43
def fX3_returnIf (v_by : Nat → Int32) (v_wd : Nat → Int32) (a1 : Bool) : Int32 × (Nat → Int32) := (kIf (kEq (bI a1) (0 : Int32)) ((0 : Int32), v_wd) (kU2 (fX3_pop v_by v_wd) (fun (r4 : Int32) (b2 : Nat → Int32) => (kU2 (fX1_setWord b2 (5 : Int32) r4) (fun (z8 : Bool) (b5 : Nat → Int32) => ((3 : Int32), b5))))))
def rmX3_returnIf : Room := { frames := 2, cells := 0, slots := 0, locals := 43 }
def wwX3_returnIf : List Cond := Cond.code yX3_returnIf cX3_returnIf 2 (some .int) :: wsL_law
theorem hdX3_returnIf : yX3_returnIf.cls = RX3 ∧ yX3_returnIf.cls ≠ "java/lang/invoke/MethodHandle" ∧ yX3_returnIf.cls ≠ "java/lang/invoke/VarHandle" ∧ (parseMethodDescriptor yX3_returnIf.desc).map (fun d => d.parameters.length) = some 1 := by decide +kernel
set_option maxHeartbeats 4000000 in
set_option maxRecDepth 100000 in
theorem c_X3_returnIf (l : Launch) (D : va_G) (cB : ClassId) (cI : ClassId) (gc me ba rg wa sm sz : Nat) (v_im : Bool) (v_ei : Bool) (v_ha : Bool) (v_hb : Bool) (v_cy : Int32) (v_by : Nat → Int32) (v_ct : Int32) (v_wd : Nat → Int32) (a1 : Bool)  : Met l yX3_returnIf wwX3_returnIf rmX3_returnIf (va_Pc [.ref gc, .int (bI a1)] (kp D (kX3 cB cI gc me ba rg wa sm v_im v_ei v_ha v_hb v_cy v_by v_ct v_wd) [(cB, .byte), (cI, .int)] sz)) (va_Qi (fun (r : Int32) (u9 : (Nat → Int32)) => (r, u9) = fX3_returnIf v_by v_wd a1) (fun u9 t => kq D (kX3 cB cI gc me ba rg wa sm v_im v_ei v_ha v_hb v_cy v_by v_ct u9) [(cB, .byte), (cI, .int)] (va_A (kX3 cB cI gc me ba rg wa sm v_im v_ei v_ha v_hb v_cy v_by v_ct v_wd) sz) t) (va_A (kX3 cB cI gc me ba rg wa sm v_im v_ei v_ha v_hb v_cy v_by v_ct v_wd) sz)) 0 0 (va_A (kX3 cB cI gc me ba rg wa sm v_im v_ei v_ha v_hb v_cy v_by v_ct v_wd) sz) := by
  refine Met.ofW (cc := cX3_returnIf) (maxL := 2) (ret := (some .int)) (by decide) rfl ?_
  intro p e s m args below meth c s₁ B hml hv
  obtain ⟨rfl, hsz, hP, hK, hD0, hT⟩ := hv
  have hx := B.exec
  have hb := B.bytes
  have hr := B.returns
  have hts := atoms_spec (ws := wwX3_returnIf) B.pre
  have hws : ∀ w ∈ wsL_law, w.before _ s = true := fun w h => hts w (List.mem_cons_of_mem _ h)
  have hown : s.vm.findClass RX3 = some m.cls := findClass_of_methodNamed B.named
  have hlocks := B.notSynchronized
  subst hsz
  have hD := hD0.self (sz := s.heap.size)
  generalize hAe : va_A (kX3 cB cI gc me ba rg wa sm v_im v_ei v_ha v_hb v_cy v_by v_ct v_wd) s.heap.size = A at hD hT ⊢
  have hA : ∀ q : Nat, s.heap.size ≤ q → A q := fun q h => by rw [← hAe]; exact Or.inr h
  have hS : va_S A s.heap s.heap [] := va_S.rf
  have hl := lv_entry ([.ref gc, .int (bI a1)]) (n := 2) (Nat.le_of_ble_eq_true rfl)
  rw [lg_entry_eq]
  generalize (lg_sl ([.ref gc, .int (bI a1)]) ++ List.replicate (2 - (lg_sl ([.ref gc, .int (bI a1)])).length) Slot.unset).toArray = ls at hl ⊢
  have hl : lv_has ls 2 [(0, .ref gc), (1, .int (bI a1))] := hl
  generalize hQ : MQ _ _ _ _ _ _ _ = Q
  obtain ⟨H, hHe⟩ : ∃ H : Heap, H = s.heap := ⟨_, rfl⟩
  obtain ⟨locs, hle⟩ : ∃ L : List Loc, L = [] := ⟨_, rfl⟩
  have hP : va_P D vwCl (kX3 cB cI gc me ba rg wa sm v_im v_ei v_ha v_hb v_cy v_by v_ct v_wd) H := by rw [hHe]; exact hP
  have hS : va_S A s.heap H locs := by rw [hHe, hle]; exact hS
  refine kw_start hHe.symm hle.symm ?_
  have hf : fX3_returnIf v_by v_wd a1 = fX3_returnIf v_by v_wd a1 := rfl
  refine lv_iload_n hx hb dX3_returnIf_0 rfl (lv_at hl 1 rfl) ?_
  refine lv_if_ne (tgt := 6) hx hb dX3_returnIf_1 (by decide) (fun c1 => ?_) (fun c1 => ?_)
  · have hf := hf.trans (kf_eq c1)
    refine lv_aload_n hx hb dX3_returnIf_6 rfl (lv_at hl 0 rfl) ?_
    refine va_get (D := D) (ci := 3) (v := .ref rg) (C := RX3) (T := TX3) (N := 8) hx hb hws inlX3 hown hK hP 0 rfl rfl 1 (by decide) (hws _ mw_20) (fun _ h9 => h9) rfl dX3_returnIf_7 ?_
    refine lv_iconst (v := 5) hx hb dX3_returnIf_10 (by decide) ?_
    refine lv_aload_n hx hb dX3_returnIf_11 rfl (lv_at hl 0 rfl) ?_
    refine kc_Vi (wr := []) (As := []) (rest := [.int (5 : Int32), .ref rg]) (fun u9 => (kX3 cB cI gc me ba rg wa sm v_im v_ei v_ha v_hb v_cy v_by v_ct u9)) ⟨hx, hb, hml, hown, hws⟩ hK hP hD hS hA hT (c_X3_pop l D cB cI gc me ba rg wa sm H.size v_im v_ei v_ha v_hb v_cy v_by v_ct v_wd ) (cwV 0 hws (gw_V mw_322 mw_323 mw_324 mw_2 mw_325) rfl rfl rfl hdX3_pop ⟨Nat.le_of_ble_eq_true rfl, Nat.le_of_ble_eq_true rfl⟩) [0, 1, 2, 3, 4, 5] [] [0, 1] [0, 1, 2, 3, 4, 5] rfl rfl rfl rfl (by decide) rfl (fun _ => rfl) rfl 0 rfl rfl rfl rfl hl.1 rfl (Nat.le_of_ble_eq_true rfl) dX3_returnIf_12 ⟨Nat.zero_le _, Nat.zero_le _⟩ (fun r4 b2 H locs hw3 hP hD hS => ?_)
    have hP : va_P D vwCl (kX3 cB cI gc me ba rg wa sm v_im v_ei v_ha v_hb v_cy v_by v_ct b2) H := hP
    have hD : va_D A (kX3 cB cI gc me ba rg wa sm v_im v_ei v_ha v_hb v_cy v_by v_ct b2) := hD
    have hf := hf.trans (kE2 hw3)
    refine kc_Vi (wr := [(gc, .inr (3, [.ref me, .ref rg, .ref sm, .int (bI v_im), .int (bI v_ei), .int (bI v_ha), .int (bI v_hb), .int v_cy])), (me, .inr (0, [.ref ba, .int v_ct])), (ba, .inl (cB, 65536, .inl v_by)), (sm, .inr (2, [.ref rg]))]) (As := [.int (5 : Int32), .int r4]) (rest := []) (fun u9 => (kX3 cB cI gc me ba rg wa sm v_im v_ei v_ha v_hb v_cy v_by v_ct u9)) ⟨hx, hb, hml, hown, hws⟩ hK hP hD hS hA hT (c_X1_setWord l D cI rg wa H.size b2 (5 : Int32) r4) (cwV 2 hws (gw_V mw_137 mw_138 mw_139 mw_32 mw_140) rfl rfl rfl hdX1_setWord ⟨Nat.le_of_ble_eq_true rfl, Nat.le_of_ble_eq_true rfl⟩) [3, 4] [0, 1, 2, 5] [1] [0, 1, 2, 4, 5, 3] rfl rfl rfl rfl (by decide) rfl (fun _ => rfl) rfl 3 rfl rfl rfl rfl hl.1 rfl (Nat.le_of_ble_eq_true rfl) dX3_returnIf_15 ⟨Nat.zero_le _, Nat.zero_le _⟩ (fun r7 b5 H locs hw6 hP hD hS => ?_)
    obtain ⟨z8, rfl, hw6⟩ := hw6
    have hP : va_P D vwCl (kX3 cB cI gc me ba rg wa sm v_im v_ei v_ha v_hb v_cy v_by v_ct b5) H := hP
    have hD : va_D A (kX3 cB cI gc me ba rg wa sm v_im v_ei v_ha v_hb v_cy v_by v_ct b5) := hD
    have hf := hf.trans (kE2 hw6)
    refine lv_pop hx hb dX3_returnIf_18 rfl ?_
    refine lv_iconst (v := 3) hx hb dX3_returnIf_19 (by decide) ?_
    rw [← hQ]
    exact W.iret (v := (3 : Int32)) hx hb hr (fun t ht hW => ⟨⟨(3 : Int32), b5, rfl, hf.symm, by rw [ht]; exact hP, va_K.moved hW.alike hK, hD⟩, hS.F ht⟩) hS.2.2 dX3_returnIf_20
  · have hf := hf.trans (kt_eq c1)
    refine lv_iconst (v := 0) hx hb dX3_returnIf_4 (by decide) ?_
    rw [← hQ]
    exact W.iret (v := (0 : Int32)) hx hb hr (fun t ht hW => ⟨⟨(0 : Int32), v_wd, rfl, hf.symm, by rw [ht]; exact hP, va_K.moved hW.alike hK, hD⟩, hS.F ht⟩) hS.2.2 dX3_returnIf_5
def fX3_executeWithByte (v_by : Nat → Int32) (v_ct : Int32) (v_wd : Nat → Int32) (a1 : Int32) : Int32 × (Nat → Int32) × Int32 × (Nat → Int32) := (kU2 (fX3_fetch v_by v_wd) (fun (r3 : Int32) (b1 : Nat → Int32) => (kU3 (((kIf (kEq a1 (4 : Int32)) (kU1 (fX1_a b1) (fun (r6 : Int32) => (kU2 (fX0_write v_by v_ct ((65280 : Int32) + r3) r6) (fun (b7 : Nat → Int32) (b8 : Int32) => (b7, b8, b1))))) (kIf (kEq a1 (5 : Int32)) (kU2 (fX2_spPlus b1 r3) (fun (r13 : Int32) (b11 : Nat → Int32) => (kU2 (fX1_setWord b11 (4 : Int32) r13) (fun (z17 : Bool) (b14 : Nat → Int32) => (v_by, v_ct, b14))))) (kIf (kEq a1 (6 : Int32)) (kU1 (fX0_at v_by ((65280 : Int32) + r3)) (fun (r20 : Int32) => (kU1 (fX1_setA b1 r20) (fun (b21 : Nat → Int32) => (v_by, v_ct, b21))))) (kU2 (fX2_spPlus b1 r3) (fun (r25 : Int32) (b23 : Nat → Int32) => (kU2 (fX1_setWord b23 (3 : Int32) r25) (fun (z29 : Bool) (b26 : Nat → Int32) => (v_by, v_ct, b26)))))))) : (Nat → Int32) × Int32 × (Nat → Int32))) (fun (b30 : Nat → Int32) (b31 : Int32) (b32 : Nat → Int32) => ((0 : Int32), b30, b31, b32)))))
def rmX3_executeWithByte : Room := { frames := 2, cells := 0, slots := 0, locals := 47 }
def wwX3_executeWithByte : List Cond := Cond.code yX3_executeWithByte cX3_executeWithByte 3 (some .int) :: wsL_law
theorem hdX3_executeWithByte : yX3_executeWithByte.cls = RX3 ∧ yX3_executeWithByte.cls ≠ "java/lang/invoke/MethodHandle" ∧ yX3_executeWithByte.cls ≠ "java/lang/invoke/VarHandle" ∧ (parseMethodDescriptor yX3_executeWithByte.desc).map (fun d => d.parameters.length) = some 1 := by decide +kernel
set_option maxHeartbeats 4000000 in
set_option maxRecDepth 100000 in
theorem c_X3_executeWithByte (l : Launch) (D : va_G) (cB : ClassId) (cI : ClassId) (gc me ba rg wa sm sz : Nat) (v_im : Bool) (v_ei : Bool) (v_ha : Bool) (v_hb : Bool) (v_cy : Int32) (v_by : Nat → Int32) (v_ct : Int32) (v_wd : Nat → Int32) (a1 : Int32)  : Met l yX3_executeWithByte wwX3_executeWithByte rmX3_executeWithByte (va_Pc [.ref gc, .int a1] (kp D (kX3 cB cI gc me ba rg wa sm v_im v_ei v_ha v_hb v_cy v_by v_ct v_wd) [(cB, .byte), (cI, .int)] sz)) (va_Qi (fun (r : Int32) (u9 : (Nat → Int32) × Int32 × (Nat → Int32)) => (r, u9) = fX3_executeWithByte v_by v_ct v_wd a1) (fun u9 t => kq D (kX3 cB cI gc me ba rg wa sm v_im v_ei v_ha v_hb v_cy (u9.1) (u9.2.1) (u9.2.2)) [(cB, .byte), (cI, .int)] (va_A (kX3 cB cI gc me ba rg wa sm v_im v_ei v_ha v_hb v_cy v_by v_ct v_wd) sz) t) (va_A (kX3 cB cI gc me ba rg wa sm v_im v_ei v_ha v_hb v_cy v_by v_ct v_wd) sz)) 0 0 (va_A (kX3 cB cI gc me ba rg wa sm v_im v_ei v_ha v_hb v_cy v_by v_ct v_wd) sz) := by
  refine Met.ofW (cc := cX3_executeWithByte) (maxL := 3) (ret := (some .int)) (by decide) rfl ?_
  intro p e s m args below meth c s₁ B hml hv
  obtain ⟨rfl, hsz, hP, hK, hD0, hT⟩ := hv
  have hx := B.exec
  have hb := B.bytes
  have hr := B.returns
  have hts := atoms_spec (ws := wwX3_executeWithByte) B.pre
  have hws : ∀ w ∈ wsL_law, w.before _ s = true := fun w h => hts w (List.mem_cons_of_mem _ h)
  have hown : s.vm.findClass RX3 = some m.cls := findClass_of_methodNamed B.named
  have hlocks := B.notSynchronized
  subst hsz
  have hD := hD0.self (sz := s.heap.size)
  generalize hAe : va_A (kX3 cB cI gc me ba rg wa sm v_im v_ei v_ha v_hb v_cy v_by v_ct v_wd) s.heap.size = A at hD hT ⊢
  have hA : ∀ q : Nat, s.heap.size ≤ q → A q := fun q h => by rw [← hAe]; exact Or.inr h
  have hS : va_S A s.heap s.heap [] := va_S.rf
  have hl := lv_entry ([.ref gc, .int a1]) (n := 3) (Nat.le_of_ble_eq_true rfl)
  rw [lg_entry_eq]
  generalize (lg_sl ([.ref gc, .int a1]) ++ List.replicate (3 - (lg_sl ([.ref gc, .int a1])).length) Slot.unset).toArray = ls at hl ⊢
  have hl : lv_has ls 3 [(0, .ref gc), (1, .int a1)] := hl
  generalize hQ : MQ _ _ _ _ _ _ _ = Q
  obtain ⟨H, hHe⟩ : ∃ H : Heap, H = s.heap := ⟨_, rfl⟩
  obtain ⟨locs, hle⟩ : ∃ L : List Loc, L = [] := ⟨_, rfl⟩
  have hP : va_P D vwCl (kX3 cB cI gc me ba rg wa sm v_im v_ei v_ha v_hb v_cy v_by v_ct v_wd) H := by rw [hHe]; exact hP
  have hS : va_S A s.heap H locs := by rw [hHe, hle]; exact hS
  refine kw_start hHe.symm hle.symm ?_
  have hf : fX3_executeWithByte v_by v_ct v_wd a1 = fX3_executeWithByte v_by v_ct v_wd a1 := rfl
  refine lv_aload_n hx hb dX3_executeWithByte_0 rfl (lv_at hl 0 rfl) ?_
  refine kc_Vi (wr := []) (As := []) (rest := []) (fun u9 => (kX3 cB cI gc me ba rg wa sm v_im v_ei v_ha v_hb v_cy v_by v_ct u9)) ⟨hx, hb, hml, hown, hws⟩ hK hP hD hS hA hT (c_X3_fetch l D cB cI gc me ba rg wa sm H.size v_im v_ei v_ha v_hb v_cy v_by v_ct v_wd ) (cwV 0 hws (gw_V mw_181 mw_182 mw_183 mw_2 mw_184) rfl rfl rfl hdX3_fetch ⟨Nat.le_of_ble_eq_true rfl, Nat.le_of_ble_eq_true rfl⟩) [0, 1, 2, 3, 4, 5] [] [0, 1] [0, 1, 2, 3, 4, 5] rfl rfl rfl rfl (by decide) rfl (fun _ => rfl) rfl 0 rfl rfl rfl rfl hl.1 rfl (Nat.le_of_ble_eq_true rfl) dX3_executeWithByte_1 ⟨Nat.zero_le _, Nat.zero_le _⟩ (fun r3 b1 H locs hw2 hP hD hS => ?_)
  have hP : va_P D vwCl (kX3 cB cI gc me ba rg wa sm v_im v_ei v_ha v_hb v_cy v_by v_ct b1) H := hP
  have hD : va_D A (kX3 cB cI gc me ba rg wa sm v_im v_ei v_ha v_hb v_cy v_by v_ct b1) := hD
  have hf := hf.trans (kE2 hw2)
  refine lv_istore_n (lv' := [(2, .int r3), (0, .ref gc), (1, .int a1)]) hx hb dX3_executeWithByte_4 rfl hl (by decide) rfl (fun ls hl => ?_)
  refine lv_iload_n hx hb dX3_executeWithByte_5 rfl (lv_at hl 2 rfl) ?_
  obtain ⟨TJ33, hTJ33⟩ : ∃ T9 : (Nat → Int32) × Int32 × (Nat → Int32), T9 = (kIf (kEq a1 (4 : Int32)) (kU1 (fX1_a b1) (fun (r6 : Int32) => (kU2 (fX0_write v_by v_ct ((65280 : Int32) + r3) r6) (fun (b7 : Nat → Int32) (b8 : Int32) => (b7, b8, b1))))) (kIf (kEq a1 (5 : Int32)) (kU2 (fX2_spPlus b1 r3) (fun (r13 : Int32) (b11 : Nat → Int32) => (kU2 (fX1_setWord b11 (4 : Int32) r13) (fun (z17 : Bool) (b14 : Nat → Int32) => (v_by, v_ct, b14))))) (kIf (kEq a1 (6 : Int32)) (kU1 (fX0_at v_by ((65280 : Int32) + r3)) (fun (r20 : Int32) => (kU1 (fX1_setA b1 r20) (fun (b21 : Nat → Int32) => (v_by, v_ct, b21))))) (kU2 (fX2_spPlus b1 r3) (fun (r25 : Int32) (b23 : Nat → Int32) => (kU2 (fX1_setWord b23 (3 : Int32) r25) (fun (z29 : Bool) (b26 : Nat → Int32) => (v_by, v_ct, b26)))))))) := ⟨_, rfl⟩
  have J33 : ∀ (b30 : Nat → Int32) (b31 : Int32) (b32 : Nat → Int32), (b30, b31, b32) = TJ33 → ∀ (H : Heap) (locs : List Loc) (ls : Array Slot), lv_has ls 3 [(2, .int r3), (0, .ref gc), (1, .int a1)] → va_P D vwCl (kX3 cB cI gc me ba rg wa sm v_im v_ei v_ha v_hb v_cy b30 b31 b32) H → va_D A (kX3 cB cI gc me ba rg wa sm v_im v_ei v_ha v_hb v_cy b30 b31 b32) → va_S A s.heap H locs → W p l e (headSpec wwX3_executeWithByte rmX3_executeWithByte).room s m ([.ref gc, .int a1] : List Value).toArray below meth c H locs 0 0 Q (F0 m 111 ls []) := by
    intro b30 b31 b32 eJ33 H locs ls hl hP hD hS
    have hf := hf.trans (kE3 (eJ33.trans hTJ33))
    refine lv_iconst (v := 0) hx hb dX3_executeWithByte_111 (by decide) ?_
    rw [← hQ]
    exact W.iret (v := (0 : Int32)) hx hb hr (fun t ht hW => ⟨⟨(0 : Int32), (b30, b31, b32), rfl, hf.symm, by rw [ht]; exact hP, va_K.moved hW.alike hK, hD⟩, hS.F ht⟩) hS.2.2 dX3_executeWithByte_112
  have hf := hTJ33
  by_cases c4 : a1 = (4 : Int32)
  · have hf := hf.trans (kt_eq c4)
    refine lv_tableIn (off := 26) (tgt := 32) hx hb dX3_executeWithByte_6 (by rw [c4]; decide) (by rw [c4]; decide) (by rw [c4]; decide) (by decide) ?_
    refine lv_aload_n hx hb dX3_executeWithByte_32 rfl (lv_at hl 1 rfl) ?_
    refine va_get (D := D) (ci := 3) (v := .ref me) (C := RX3) (T := TX3) (N := 8) hx hb hws inlX3 hown hK hP 0 rfl rfl 0 (by decide) (hws _ mw_15) (fun _ h9 => h9) rfl dX3_executeWithByte_33 ?_
    refine lv_ldc (v := 65280) hx hb hown (hws _ mw_330) dX3_executeWithByte_36 ?_
    refine lv_iload_n hx hb dX3_executeWithByte_38 rfl (lv_at hl 0 rfl) ?_
    refine lv_iadd hx hb dX3_executeWithByte_39 ?_
    refine lv_aload_n hx hb dX3_executeWithByte_40 rfl (lv_at hl 1 rfl) ?_
    refine va_get (D := D) (ci := 3) (v := .ref rg) (C := RX3) (T := TX3) (N := 8) hx hb hws inlX3 hown hK hP 0 rfl rfl 1 (by decide) (hws _ mw_20) (fun _ h9 => h9) rfl dX3_executeWithByte_41 ?_
    refine kc_Vi (wr := [(gc, .inr (3, [.ref me, .ref rg, .ref sm, .int (bI v_im), .int (bI v_ei), .int (bI v_ha), .int (bI v_hb), .int v_cy])), (me, .inr (0, [.ref ba, .int v_ct])), (ba, .inl (cB, 65536, .inl v_by)), (sm, .inr (2, [.ref rg]))]) (As := []) (rest := [.int ((65280 : Int32) + r3), .ref me]) (fun _ => (kX3 cB cI gc me ba rg wa sm v_im v_ei v_ha v_hb v_cy v_by v_ct b1)) ⟨hx, hb, hml, hown, hws⟩ hK hP hD hS hA hT (c_X1_a l D cI rg wa H.size b1 ) (cwV 0 hws (gw_V mw_267 mw_268 mw_269 mw_32 mw_270) rfl rfl rfl hdX1_a ⟨Nat.le_of_ble_eq_true rfl, Nat.le_of_ble_eq_true rfl⟩) [3, 4] [0, 1, 2, 5] [1] [0, 1, 2, 4, 5, 3] rfl rfl rfl rfl (by decide) rfl (fun _ => rfl) rfl 3 rfl rfl rfl rfl hl.1 rfl (Nat.le_of_ble_eq_true rfl) dX3_executeWithByte_44 ⟨Nat.zero_le _, Nat.zero_le _⟩ (fun r6 _ H locs hw5 hP hD hS => ?_)
    have hP : va_P D vwCl (kX3 cB cI gc me ba rg wa sm v_im v_ei v_ha v_hb v_cy v_by v_ct b1) H := hP
    have hD : va_D A (kX3 cB cI gc me ba rg wa sm v_im v_ei v_ha v_hb v_cy v_by v_ct b1) := hD
    have hf := hf.trans (kE1 hw5)
    refine kc_Vv (wr := [(gc, .inr (3, [.ref me, .ref rg, .ref sm, .int (bI v_im), .int (bI v_ei), .int (bI v_ha), .int (bI v_hb), .int v_cy])), (rg, .inr (1, [.ref wa])), (wa, .inl (cI, 6, .inl b1)), (sm, .inr (2, [.ref rg]))]) (As := [.int ((65280 : Int32) + r3), .int r6]) (rest := []) (fun u9 => (kX3 cB cI gc me ba rg wa sm v_im v_ei v_ha v_hb v_cy (u9.1) (u9.2) b1)) ⟨hx, hb, hml, hown, hws⟩ hK hP hD hS hA hT (c_X0_write l D cB me ba H.size v_by v_ct ((65280 : Int32) + r3) r6) (cwV 2 hws (gw_V mw_131 mw_132 mw_133 mw_14 mw_134) rfl rfl rfl hdX0_write ⟨Nat.le_of_ble_eq_true rfl, Nat.le_of_ble_eq_true rfl⟩) [1, 2] [0, 3, 4, 5] [0] [0, 4, 5, 1, 2, 3] rfl rfl rfl rfl (by decide) rfl (fun _ => rfl) rfl 1 rfl rfl rfl rfl hl.1 rfl (Nat.le_of_ble_eq_true rfl) dX3_executeWithByte_47 ⟨Nat.zero_le _, Nat.zero_le _⟩ (fun u9 H locs hw9 hP hD hS => ?_)
    obtain ⟨b7, b8⟩ := u9
    have hP : va_P D vwCl (kX3 cB cI gc me ba rg wa sm v_im v_ei v_ha v_hb v_cy b7 b8 b1) H := hP
    have hD : va_D A (kX3 cB cI gc me ba rg wa sm v_im v_ei v_ha v_hb v_cy b7 b8 b1) := hD
    have hf := hf.trans (kE2 hw9)
    refine lv_goto (tgt := 111) hx hb dX3_executeWithByte_50 (by decide) ?_
    exact J33 b7 b8 b1 hf.symm H locs ls (lv_sub hl [0, 1, 2] rfl) hP hD hS
  · have hf := hf.trans (kf_eq c4)
    by_cases c10 : a1 = (5 : Int32)
    · have hf := hf.trans (kt_eq c10)
      refine lv_tableIn (off := 47) (tgt := 53) hx hb dX3_executeWithByte_6 (by rw [c10]; decide) (by rw [c10]; decide) (by rw [c10]; decide) (by decide) ?_
      refine lv_aload_n hx hb dX3_executeWithByte_53 rfl (lv_at hl 1 rfl) ?_
      refine va_get (D := D) (ci := 3) (v := .ref rg) (C := RX3) (T := TX3) (N := 8) hx hb hws inlX3 hown hK hP 0 rfl rfl 1 (by decide) (hws _ mw_20) (fun _ h9 => h9) rfl dX3_executeWithByte_54 ?_
      refine lv_iconst (v := 4) hx hb dX3_executeWithByte_57 (by decide) ?_
      refine lv_aload_n hx hb dX3_executeWithByte_58 rfl (lv_at hl 1 rfl) ?_
      refine va_get (D := D) (ci := 3) (v := .ref sm) (C := RX3) (T := TX3) (N := 8) hx hb hws inlX3 hown hK hP 0 rfl rfl 2 (by decide) (hws _ mw_19) (fun _ h9 => h9) rfl dX3_executeWithByte_59 ?_
      refine lv_iload_n hx hb dX3_executeWithByte_62 rfl (lv_at hl 0 rfl) ?_
      refine kc_Vi (wr := [(gc, .inr (3, [.ref me, .ref rg, .ref sm, .int (bI v_im), .int (bI v_ei), .int (bI v_ha), .int (bI v_hb), .int v_cy])), (me, .inr (0, [.ref ba, .int v_ct])), (ba, .inl (cB, 65536, .inl v_by))]) (As := [.int r3]) (rest := [.int (4 : Int32), .ref rg]) (fun u9 => (kX3 cB cI gc me ba rg wa sm v_im v_ei v_ha v_hb v_cy v_by v_ct u9)) ⟨hx, hb, hml, hown, hws⟩ hK hP hD hS hA hT (c_X2_spPlus l D cI sm rg wa H.size b1 r3) (cwV 1 hws (gw_V mw_331 mw_332 mw_333 mw_18 mw_334) rfl rfl rfl hdX2_spPlus ⟨Nat.le_of_ble_eq_true rfl, Nat.le_of_ble_eq_true rfl⟩) [5, 3, 4] [0, 1, 2] [1] [0, 1, 2, 4, 5, 3] rfl rfl rfl rfl (by decide) rfl (fun _ => rfl) rfl 5 rfl rfl rfl rfl hl.1 rfl (Nat.le_of_ble_eq_true rfl) dX3_executeWithByte_63 ⟨Nat.zero_le _, Nat.zero_le _⟩ (fun r13 b11 H locs hw12 hP hD hS => ?_)
      have hP : va_P D vwCl (kX3 cB cI gc me ba rg wa sm v_im v_ei v_ha v_hb v_cy v_by v_ct b11) H := hP
      have hD : va_D A (kX3 cB cI gc me ba rg wa sm v_im v_ei v_ha v_hb v_cy v_by v_ct b11) := hD
      have hf := hf.trans (kE2 hw12)
      refine kc_Vi (wr := [(gc, .inr (3, [.ref me, .ref rg, .ref sm, .int (bI v_im), .int (bI v_ei), .int (bI v_ha), .int (bI v_hb), .int v_cy])), (me, .inr (0, [.ref ba, .int v_ct])), (ba, .inl (cB, 65536, .inl v_by)), (sm, .inr (2, [.ref rg]))]) (As := [.int (4 : Int32), .int r13]) (rest := []) (fun u9 => (kX3 cB cI gc me ba rg wa sm v_im v_ei v_ha v_hb v_cy v_by v_ct u9)) ⟨hx, hb, hml, hown, hws⟩ hK hP hD hS hA hT (c_X1_setWord l D cI rg wa H.size b11 (4 : Int32) r13) (cwV 2 hws (gw_V mw_137 mw_138 mw_139 mw_32 mw_140) rfl rfl rfl hdX1_setWord ⟨Nat.le_of_ble_eq_true rfl, Nat.le_of_ble_eq_true rfl⟩) [3, 4] [0, 1, 2, 5] [1] [0, 1, 2, 4, 5, 3] rfl rfl rfl rfl (by decide) rfl (fun _ => rfl) rfl 3 rfl rfl rfl rfl hl.1 rfl (Nat.le_of_ble_eq_true rfl) dX3_executeWithByte_66 ⟨Nat.zero_le _, Nat.zero_le _⟩ (fun r16 b14 H locs hw15 hP hD hS => ?_)
      obtain ⟨z17, rfl, hw15⟩ := hw15
      have hP : va_P D vwCl (kX3 cB cI gc me ba rg wa sm v_im v_ei v_ha v_hb v_cy v_by v_ct b14) H := hP
      have hD : va_D A (kX3 cB cI gc me ba rg wa sm v_im v_ei v_ha v_hb v_cy v_by v_ct b14) := hD
      have hf := hf.trans (kE2 hw15)
      refine lv_pop hx hb dX3_executeWithByte_69 rfl ?_
      refine lv_goto (tgt := 111) hx hb dX3_executeWithByte_70 (by decide) ?_
      exact J33 v_by v_ct b14 hf.symm H locs ls (lv_sub hl [0, 1, 2] rfl) hP hD hS
    · have hf := hf.trans (kf_eq c10)
      by_cases c18 : a1 = (6 : Int32)
      · have hf := hf.trans (kt_eq c18)
        refine lv_tableIn (off := 67) (tgt := 73) hx hb dX3_executeWithByte_6 (by rw [c18]; decide) (by rw [c18]; decide) (by rw [c18]; decide) (by decide) ?_
        refine lv_aload_n hx hb dX3_executeWithByte_73 rfl (lv_at hl 1 rfl) ?_
        refine va_get (D := D) (ci := 3) (v := .ref rg) (C := RX3) (T := TX3) (N := 8) hx hb hws inlX3 hown hK hP 0 rfl rfl 1 (by decide) (hws _ mw_20) (fun _ h9 => h9) rfl dX3_executeWithByte_74 ?_
        refine lv_aload_n hx hb dX3_executeWithByte_77 rfl (lv_at hl 1 rfl) ?_
        refine va_get (D := D) (ci := 3) (v := .ref me) (C := RX3) (T := TX3) (N := 8) hx hb hws inlX3 hown hK hP 0 rfl rfl 0 (by decide) (hws _ mw_15) (fun _ h9 => h9) rfl dX3_executeWithByte_78 ?_
        refine lv_ldc (v := 65280) hx hb hown (hws _ mw_330) dX3_executeWithByte_81 ?_
        refine lv_iload_n hx hb dX3_executeWithByte_83 rfl (lv_at hl 0 rfl) ?_
        refine lv_iadd hx hb dX3_executeWithByte_84 ?_
        refine kc_Vi (wr := [(gc, .inr (3, [.ref me, .ref rg, .ref sm, .int (bI v_im), .int (bI v_ei), .int (bI v_ha), .int (bI v_hb), .int v_cy])), (rg, .inr (1, [.ref wa])), (wa, .inl (cI, 6, .inl b1)), (sm, .inr (2, [.ref rg]))]) (As := [.int ((65280 : Int32) + r3)]) (rest := [.ref rg]) (fun _ => (kX3 cB cI gc me ba rg wa sm v_im v_ei v_ha v_hb v_cy v_by v_ct b1)) ⟨hx, hb, hml, hown, hws⟩ hK hP hD hS hA hT (c_X0_at l D cB me ba H.size v_by v_ct ((65280 : Int32) + r3)) (cwV 1 hws (gw_V mw_85 mw_86 mw_87 mw_14 mw_88) rfl rfl rfl hdX0_at ⟨Nat.le_of_ble_eq_true rfl, Nat.le_of_ble_eq_true rfl⟩) [1, 2] [0, 3, 4, 5] [0] [0, 4, 5, 1, 2, 3] rfl rfl rfl rfl (by decide) rfl (fun _ => rfl) rfl 1 rfl rfl rfl rfl hl.1 rfl (Nat.le_of_ble_eq_true rfl) dX3_executeWithByte_85 ⟨Nat.zero_le _, Nat.zero_le _⟩ (fun r20 _ H locs hw19 hP hD hS => ?_)
        have hP : va_P D vwCl (kX3 cB cI gc me ba rg wa sm v_im v_ei v_ha v_hb v_cy v_by v_ct b1) H := hP
        have hD : va_D A (kX3 cB cI gc me ba rg wa sm v_im v_ei v_ha v_hb v_cy v_by v_ct b1) := hD
        have hf := hf.trans (kE1 hw19)
        refine kc_Vv (wr := [(gc, .inr (3, [.ref me, .ref rg, .ref sm, .int (bI v_im), .int (bI v_ei), .int (bI v_ha), .int (bI v_hb), .int v_cy])), (me, .inr (0, [.ref ba, .int v_ct])), (ba, .inl (cB, 65536, .inl v_by)), (sm, .inr (2, [.ref rg]))]) (As := [.int r20]) (rest := []) (fun u9 => (kX3 cB cI gc me ba rg wa sm v_im v_ei v_ha v_hb v_cy v_by v_ct u9)) ⟨hx, hb, hml, hown, hws⟩ hK hP hD hS hA hT (c_X1_setA l D cI rg wa H.size b1 r20) (cwV 1 hws (gw_V mw_271 mw_272 mw_273 mw_32 mw_274) rfl rfl rfl hdX1_setA ⟨Nat.le_of_ble_eq_true rfl, Nat.le_of_ble_eq_true rfl⟩) [3, 4] [0, 1, 2, 5] [1] [0, 1, 2, 4, 5, 3] rfl rfl rfl rfl (by decide) rfl (fun _ => rfl) rfl 3 rfl rfl rfl rfl hl.1 rfl (Nat.le_of_ble_eq_true rfl) dX3_executeWithByte_88 ⟨Nat.zero_le _, Nat.zero_le _⟩ (fun b21 H locs hw22 hP hD hS => ?_)
        have hP : va_P D vwCl (kX3 cB cI gc me ba rg wa sm v_im v_ei v_ha v_hb v_cy v_by v_ct b21) H := hP
        have hD : va_D A (kX3 cB cI gc me ba rg wa sm v_im v_ei v_ha v_hb v_cy v_by v_ct b21) := hD
        have hf := hf.trans (kE1 hw22)
        refine lv_goto (tgt := 111) hx hb dX3_executeWithByte_91 (by decide) ?_
        exact J33 v_by v_ct b21 hf.symm H locs ls (lv_sub hl [0, 1, 2] rfl) hP hD hS
      · have hf := hf.trans (kf_eq c18)
        refine lv_tableOut (tgt := 94) hx hb dX3_executeWithByte_6 (by have n4 := lv_neT c4 (a := 4) rfl; have n5 := lv_neT c10 (a := 5) rfl; have n6 := lv_neT c18 (a := 6) rfl; omega) (by decide) ?_
        refine lv_aload_n hx hb dX3_executeWithByte_94 rfl (lv_at hl 1 rfl) ?_
        refine va_get (D := D) (ci := 3) (v := .ref rg) (C := RX3) (T := TX3) (N := 8) hx hb hws inlX3 hown hK hP 0 rfl rfl 1 (by decide) (hws _ mw_20) (fun _ h9 => h9) rfl dX3_executeWithByte_95 ?_
        refine lv_iconst (v := 3) hx hb dX3_executeWithByte_98 (by decide) ?_
        refine lv_aload_n hx hb dX3_executeWithByte_99 rfl (lv_at hl 1 rfl) ?_
        refine va_get (D := D) (ci := 3) (v := .ref sm) (C := RX3) (T := TX3) (N := 8) hx hb hws inlX3 hown hK hP 0 rfl rfl 2 (by decide) (hws _ mw_19) (fun _ h9 => h9) rfl dX3_executeWithByte_100 ?_
        refine lv_iload_n hx hb dX3_executeWithByte_103 rfl (lv_at hl 0 rfl) ?_
        refine kc_Vi (wr := [(gc, .inr (3, [.ref me, .ref rg, .ref sm, .int (bI v_im), .int (bI v_ei), .int (bI v_ha), .int (bI v_hb), .int v_cy])), (me, .inr (0, [.ref ba, .int v_ct])), (ba, .inl (cB, 65536, .inl v_by))]) (As := [.int r3]) (rest := [.int (3 : Int32), .ref rg]) (fun u9 => (kX3 cB cI gc me ba rg wa sm v_im v_ei v_ha v_hb v_cy v_by v_ct u9)) ⟨hx, hb, hml, hown, hws⟩ hK hP hD hS hA hT (c_X2_spPlus l D cI sm rg wa H.size b1 r3) (cwV 1 hws (gw_V mw_331 mw_332 mw_333 mw_18 mw_334) rfl rfl rfl hdX2_spPlus ⟨Nat.le_of_ble_eq_true rfl, Nat.le_of_ble_eq_true rfl⟩) [5, 3, 4] [0, 1, 2] [1] [0, 1, 2, 4, 5, 3] rfl rfl rfl rfl (by decide) rfl (fun _ => rfl) rfl 5 rfl rfl rfl rfl hl.1 rfl (Nat.le_of_ble_eq_true rfl) dX3_executeWithByte_104 ⟨Nat.zero_le _, Nat.zero_le _⟩ (fun r25 b23 H locs hw24 hP hD hS => ?_)
        have hP : va_P D vwCl (kX3 cB cI gc me ba rg wa sm v_im v_ei v_ha v_hb v_cy v_by v_ct b23) H := hP
        have hD : va_D A (kX3 cB cI gc me ba rg wa sm v_im v_ei v_ha v_hb v_cy v_by v_ct b23) := hD
        have hf := hf.trans (kE2 hw24)
        refine kc_Vi (wr := [(gc, .inr (3, [.ref me, .ref rg, .ref sm, .int (bI v_im), .int (bI v_ei), .int (bI v_ha), .int (bI v_hb), .int v_cy])), (me, .inr (0, [.ref ba, .int v_ct])), (ba, .inl (cB, 65536, .inl v_by)), (sm, .inr (2, [.ref rg]))]) (As := [.int (3 : Int32), .int r25]) (rest := []) (fun u9 => (kX3 cB cI gc me ba rg wa sm v_im v_ei v_ha v_hb v_cy v_by v_ct u9)) ⟨hx, hb, hml, hown, hws⟩ hK hP hD hS hA hT (c_X1_setWord l D cI rg wa H.size b23 (3 : Int32) r25) (cwV 2 hws (gw_V mw_137 mw_138 mw_139 mw_32 mw_140) rfl rfl rfl hdX1_setWord ⟨Nat.le_of_ble_eq_true rfl, Nat.le_of_ble_eq_true rfl⟩) [3, 4] [0, 1, 2, 5] [1] [0, 1, 2, 4, 5, 3] rfl rfl rfl rfl (by decide) rfl (fun _ => rfl) rfl 3 rfl rfl rfl rfl hl.1 rfl (Nat.le_of_ble_eq_true rfl) dX3_executeWithByte_107 ⟨Nat.zero_le _, Nat.zero_le _⟩ (fun r28 b26 H locs hw27 hP hD hS => ?_)
        obtain ⟨z29, rfl, hw27⟩ := hw27
        have hP : va_P D vwCl (kX3 cB cI gc me ba rg wa sm v_im v_ei v_ha v_hb v_cy v_by v_ct b26) H := hP
        have hD : va_D A (kX3 cB cI gc me ba rg wa sm v_im v_ei v_ha v_hb v_cy v_by v_ct b26) := hD
        have hf := hf.trans (kE2 hw27)
        refine lv_pop hx hb dX3_executeWithByte_110 rfl ?_
        exact J33 v_by v_ct b26 hf.symm H locs ls (lv_sub hl [0, 1, 2] rfl) hP hD hS
def fX3_stackPair  (a1 : Int32) : Int32 := (((1 : Int32) + (a1 >>> ((1 : Int32) &&& (31 : Int32)))) &&& (3 : Int32))
def rmX3_stackPair : Room := { frames := 0, cells := 0, slots := 0, locals := 0 }
def wwX3_stackPair : List Cond := Cond.code yX3_stackPair cX3_stackPair 1 (some .int) :: wsL_law
theorem hdX3_stackPair : yX3_stackPair.cls = RX3 ∧ yX3_stackPair.cls ≠ "java/lang/invoke/MethodHandle" ∧ yX3_stackPair.cls ≠ "java/lang/invoke/VarHandle" ∧ (parseMethodDescriptor yX3_stackPair.desc).map (fun d => d.parameters.length) = some 1 := by decide +kernel
set_option maxHeartbeats 4000000 in
set_option maxRecDepth 100000 in
theorem c_X3_stackPair (l : Launch) (D : va_G) (sz : Nat) (a1 : Int32)  : Met l yX3_stackPair wwX3_stackPair rmX3_stackPair (va_Pc [.int a1] (kp D [] [] sz)) (va_Qi (fun (r : Int32) (_ : Unit) => r = fX3_stackPair a1) (fun _ t => kq D [] [] (va_A [] sz) t) (va_A [] sz)) 0 0 (va_A [] sz) := by
  refine Met.ofW (cc := cX3_stackPair) (maxL := 1) (ret := (some .int)) (by decide) rfl ?_
  intro p e s m args below meth c s₁ B hml hv
  obtain ⟨rfl, hsz, hP, hK, hD0, hT⟩ := hv
  have hx := B.exec
  have hb := B.bytes
  have hr := B.returns
  have hts := atoms_spec (ws := wwX3_stackPair) B.pre
  have hws : ∀ w ∈ wsL_law, w.before _ s = true := fun w h => hts w (List.mem_cons_of_mem _ h)
  have hown : s.vm.findClass RX3 = some m.cls := findClass_of_methodNamed B.named
  have hlocks := B.notSynchronized
  subst hsz
  have hD := hD0.self (sz := s.heap.size)
  generalize hAe : va_A [] s.heap.size = A at hD hT ⊢
  have hA : ∀ q : Nat, s.heap.size ≤ q → A q := fun q h => by rw [← hAe]; exact Or.inr h
  have hS : va_S A s.heap s.heap [] := va_S.rf
  have hl := lv_entry ([.int a1]) (n := 1) (Nat.le_of_ble_eq_true rfl)
  rw [lg_entry_eq]
  generalize (lg_sl ([.int a1]) ++ List.replicate (1 - (lg_sl ([.int a1])).length) Slot.unset).toArray = ls at hl ⊢
  have hl : lv_has ls 1 [(0, .int a1)] := hl
  generalize hQ : MQ _ _ _ _ _ _ _ = Q
  obtain ⟨H, hHe⟩ : ∃ H : Heap, H = s.heap := ⟨_, rfl⟩
  obtain ⟨locs, hle⟩ : ∃ L : List Loc, L = [] := ⟨_, rfl⟩
  have hP : va_P D vwCl [] H := by rw [hHe]; exact hP
  have hS : va_S A s.heap H locs := by rw [hHe, hle]; exact hS
  refine kw_start hHe.symm hle.symm ?_
  have hf : fX3_stackPair a1 = fX3_stackPair a1 := rfl
  refine lv_iconst (v := 1) hx hb dX3_stackPair_0 (by decide) ?_
  refine lv_iload_n hx hb dX3_stackPair_1 rfl (lv_at hl 0 rfl) ?_
  refine lv_iconst (v := 1) hx hb dX3_stackPair_2 (by decide) ?_
  refine lv_ishr hx hb dX3_stackPair_3 ?_
  refine lv_iadd hx hb dX3_stackPair_4 ?_
  refine lv_iconst (v := 3) hx hb dX3_stackPair_5 (by decide) ?_
  refine lv_iand hx hb dX3_stackPair_6 ?_
  rw [← hQ]
  exact W.iret (v := (((1 : Int32) + (a1 >>> ((1 : Int32) &&& (31 : Int32)))) &&& (3 : Int32))) hx hb hr (fun t ht hW => ⟨⟨(((1 : Int32) + (a1 >>> ((1 : Int32) &&& (31 : Int32)))) &&& (3 : Int32)), (), rfl, hf.symm, by rw [ht]; exact hP, va_K.moved hW.alike hK, hD⟩, hS.F ht⟩) hS.2.2 dX3_stackPair_7
def fX3_popOrMove (v_im : Bool) (v_by : Nat → Int32) (v_wd : Nat → Int32) (a1 : Int32) : Bool × (Nat → Int32) := (kIf (kEq a1 (1 : Int32)) (kU2 (fX3_pop v_by v_wd) (fun (r4 : Int32) (b2 : Nat → Int32) => (kU2 (fX1_setWord b2 (5 : Int32) r4) (fun (z8 : Bool) (b5 : Nat → Int32) => (v_im, b5))))) (kIf (kEq a1 (2 : Int32)) (kU1 (fX3_stackPair a1) (fun (r10 : Int32) => (kU2 (fX3_pop v_by v_wd) (fun (r13 : Int32) (b11 : Nat → Int32) => (kU2 (fX1_setWord b11 r10 r13) (fun (z17 : Bool) (b14 : Nat → Int32) => (v_im, b14))))))) (kIf (kEq a1 (3 : Int32)) (kU2 (fX3_pop v_by v_wd) (fun (r21 : Int32) (b19 : Nat → Int32) => (kU2 (fX1_setWord b19 (5 : Int32) r21) (fun (z25 : Bool) (b22 : Nat → Int32) => (true, b22))))) (kIf (kEq a1 (4 : Int32)) (kU1 (fX3_stackPair a1) (fun (r27 : Int32) => (kU2 (fX3_pop v_by v_wd) (fun (r30 : Int32) (b28 : Nat → Int32) => (kU2 (fX1_setWord b28 r27 r30) (fun (z34 : Bool) (b31 : Nat → Int32) => (v_im, b31))))))) (kIf (kEq a1 (5 : Int32)) (kU1 (fX1_word v_wd (3 : Int32)) (fun (r37 : Int32) => (kU2 (fX1_setWord v_wd (5 : Int32) r37) (fun (z41 : Bool) (b38 : Nat → Int32) => (v_im, b38))))) (kIf (kEq a1 (6 : Int32)) (kU1 (fX3_stackPair a1) (fun (r43 : Int32) => (kU2 (fX3_pop v_by v_wd) (fun (r46 : Int32) (b44 : Nat → Int32) => (kU2 (fX1_setWord b44 r43 r46) (fun (z50 : Bool) (b47 : Nat → Int32) => (v_im, b47))))))) (kIf (kEq a1 (7 : Int32)) (kU1 (fX1_word v_wd (3 : Int32)) (fun (r53 : Int32) => (kU2 (fX1_setWord v_wd (4 : Int32) r53) (fun (z57 : Bool) (b54 : Nat → Int32) => (v_im, b54))))) (kU1 (fX3_stackPair a1) (fun (r58 : Int32) => (kU2 (fX3_pop v_by v_wd) (fun (r61 : Int32) (b59 : Nat → Int32) => (kU2 (fX1_setWord b59 r58 r61) (fun (z65 : Bool) (b62 : Nat → Int32) => (v_im, b62))))))))))))))
def rmX3_popOrMove : Room := { frames := 2, cells := 0, slots := 0, locals := 43 }
def wwX3_popOrMove : List Cond := Cond.code yX3_popOrMove cX3_popOrMove 2 none :: wsL_law
theorem hdX3_popOrMove : yX3_popOrMove.cls = RX3 ∧ yX3_popOrMove.cls ≠ "java/lang/invoke/MethodHandle" ∧ yX3_popOrMove.cls ≠ "java/lang/invoke/VarHandle" ∧ (parseMethodDescriptor yX3_popOrMove.desc).map (fun d => d.parameters.length) = some 1 := by decide +kernel
set_option maxHeartbeats 4000000 in
set_option maxRecDepth 100000 in
theorem c_X3_popOrMove (l : Launch) (D : va_G) (cB : ClassId) (cI : ClassId) (gc me ba rg wa sm sz : Nat) (v_im : Bool) (v_ei : Bool) (v_ha : Bool) (v_hb : Bool) (v_cy : Int32) (v_by : Nat → Int32) (v_ct : Int32) (v_wd : Nat → Int32) (a1 : Int32)  : Met l yX3_popOrMove wwX3_popOrMove rmX3_popOrMove (va_Pc [.ref gc, .int a1] (kp D (kX3 cB cI gc me ba rg wa sm v_im v_ei v_ha v_hb v_cy v_by v_ct v_wd) [(cB, .byte), (cI, .int)] sz)) (va_Qv (fun (u9 : Bool × (Nat → Int32)) => u9 = fX3_popOrMove v_im v_by v_wd a1) (fun u9 t => kq D (kX3 cB cI gc me ba rg wa sm (u9.1) v_ei v_ha v_hb v_cy v_by v_ct (u9.2)) [(cB, .byte), (cI, .int)] (va_A (kX3 cB cI gc me ba rg wa sm v_im v_ei v_ha v_hb v_cy v_by v_ct v_wd) sz) t) (va_A (kX3 cB cI gc me ba rg wa sm v_im v_ei v_ha v_hb v_cy v_by v_ct v_wd) sz)) 0 0 (va_A (kX3 cB cI gc me ba rg wa sm v_im v_ei v_ha v_hb v_cy v_by v_ct v_wd) sz) := by
  refine Met.ofW (cc := cX3_popOrMove) (maxL := 2) (ret := none) (by decide) rfl ?_
  intro p e s m args below meth c s₁ B hml hv
  obtain ⟨rfl, hsz, hP, hK, hD0, hT⟩ := hv
  have hx := B.exec
  have hb := B.bytes
  have hr := B.returns
  have hts := atoms_spec (ws := wwX3_popOrMove) B.pre
  have hws : ∀ w ∈ wsL_law, w.before _ s = true := fun w h => hts w (List.mem_cons_of_mem _ h)
  have hown : s.vm.findClass RX3 = some m.cls := findClass_of_methodNamed B.named
  have hlocks := B.notSynchronized
  subst hsz
  have hD := hD0.self (sz := s.heap.size)
  generalize hAe : va_A (kX3 cB cI gc me ba rg wa sm v_im v_ei v_ha v_hb v_cy v_by v_ct v_wd) s.heap.size = A at hD hT ⊢
  have hA : ∀ q : Nat, s.heap.size ≤ q → A q := fun q h => by rw [← hAe]; exact Or.inr h
  have hS : va_S A s.heap s.heap [] := va_S.rf
  have hl := lv_entry ([.ref gc, .int a1]) (n := 2) (Nat.le_of_ble_eq_true rfl)
  rw [lg_entry_eq]
  generalize (lg_sl ([.ref gc, .int a1]) ++ List.replicate (2 - (lg_sl ([.ref gc, .int a1])).length) Slot.unset).toArray = ls at hl ⊢
  have hl : lv_has ls 2 [(0, .ref gc), (1, .int a1)] := hl
  generalize hQ : MQ _ _ _ _ _ _ _ = Q
  obtain ⟨H, hHe⟩ : ∃ H : Heap, H = s.heap := ⟨_, rfl⟩
  obtain ⟨locs, hle⟩ : ∃ L : List Loc, L = [] := ⟨_, rfl⟩
  have hP : va_P D vwCl (kX3 cB cI gc me ba rg wa sm v_im v_ei v_ha v_hb v_cy v_by v_ct v_wd) H := by rw [hHe]; exact hP
  have hS : va_S A s.heap H locs := by rw [hHe, hle]; exact hS
  refine kw_start hHe.symm hle.symm ?_
  have hf : fX3_popOrMove v_im v_by v_wd a1 = fX3_popOrMove v_im v_by v_wd a1 := rfl
  refine lv_iload_n hx hb dX3_popOrMove_0 rfl (lv_at hl 1 rfl) ?_
  by_cases c1 : a1 = (1 : Int32)
  · have hf := hf.trans (kt_eq c1)
    refine lv_tableIn (off := 43) (tgt := 44) hx hb dX3_popOrMove_1 (by rw [c1]; decide) (by rw [c1]; decide) (by rw [c1]; decide) (by decide) ?_
    refine lv_aload_n hx hb dX3_popOrMove_44 rfl (lv_at hl 0 rfl) ?_
    refine va_get (D := D) (ci := 3) (v := .ref rg) (C := RX3) (T := TX3) (N := 8) hx hb hws inlX3 hown hK hP 0 rfl rfl 1 (by decide) (hws _ mw_20) (fun _ h9 => h9) rfl dX3_popOrMove_45 ?_
    refine lv_iconst (v := 5) hx hb dX3_popOrMove_48 (by decide) ?_
    refine lv_aload_n hx hb dX3_popOrMove_49 rfl (lv_at hl 0 rfl) ?_
    refine kc_Vi (wr := []) (As := []) (rest := [.int (5 : Int32), .ref rg]) (fun u9 => (kX3 cB cI gc me ba rg wa sm v_im v_ei v_ha v_hb v_cy v_by v_ct u9)) ⟨hx, hb, hml, hown, hws⟩ hK hP hD hS hA hT (c_X3_pop l D cB cI gc me ba rg wa sm H.size v_im v_ei v_ha v_hb v_cy v_by v_ct v_wd ) (cwV 0 hws (gw_V mw_322 mw_323 mw_324 mw_2 mw_325) rfl rfl rfl hdX3_pop ⟨Nat.le_of_ble_eq_true rfl, Nat.le_of_ble_eq_true rfl⟩) [0, 1, 2, 3, 4, 5] [] [0, 1] [0, 1, 2, 3, 4, 5] rfl rfl rfl rfl (by decide) rfl (fun _ => rfl) rfl 0 rfl rfl rfl rfl hl.1 rfl (Nat.le_of_ble_eq_true rfl) dX3_popOrMove_50 ⟨Nat.zero_le _, Nat.zero_le _⟩ (fun r4 b2 H locs hw3 hP hD hS => ?_)
    have hP : va_P D vwCl (kX3 cB cI gc me ba rg wa sm v_im v_ei v_ha v_hb v_cy v_by v_ct b2) H := hP
    have hD : va_D A (kX3 cB cI gc me ba rg wa sm v_im v_ei v_ha v_hb v_cy v_by v_ct b2) := hD
    have hf := hf.trans (kE2 hw3)
    refine kc_Vi (wr := [(gc, .inr (3, [.ref me, .ref rg, .ref sm, .int (bI v_im), .int (bI v_ei), .int (bI v_ha), .int (bI v_hb), .int v_cy])), (me, .inr (0, [.ref ba, .int v_ct])), (ba, .inl (cB, 65536, .inl v_by)), (sm, .inr (2, [.ref rg]))]) (As := [.int (5 : Int32), .int r4]) (rest := []) (fun u9 => (kX3 cB cI gc me ba rg wa sm v_im v_ei v_ha v_hb v_cy v_by v_ct u9)) ⟨hx, hb, hml, hown, hws⟩ hK hP hD hS hA hT (c_X1_setWord l D cI rg wa H.size b2 (5 : Int32) r4) (cwV 2 hws (gw_V mw_137 mw_138 mw_139 mw_32 mw_140) rfl rfl rfl hdX1_setWord ⟨Nat.le_of_ble_eq_true rfl, Nat.le_of_ble_eq_true rfl⟩) [3, 4] [0, 1, 2, 5] [1] [0, 1, 2, 4, 5, 3] rfl rfl rfl rfl (by decide) rfl (fun _ => rfl) rfl 3 rfl rfl rfl rfl hl.1 rfl (Nat.le_of_ble_eq_true rfl) dX3_popOrMove_53 ⟨Nat.zero_le _, Nat.zero_le _⟩ (fun r7 b5 H locs hw6 hP hD hS => ?_)
    obtain ⟨z8, rfl, hw6⟩ := hw6
    have hP : va_P D vwCl (kX3 cB cI gc me ba rg wa sm v_im v_ei v_ha v_hb v_cy v_by v_ct b5) H := hP
    have hD : va_D A (kX3 cB cI gc me ba rg wa sm v_im v_ei v_ha v_hb v_cy v_by v_ct b5) := hD
    have hf := hf.trans (kE2 hw6)
    refine lv_pop hx hb dX3_popOrMove_56 rfl ?_
    refine lv_goto (tgt := 137) hx hb dX3_popOrMove_57 (by decide) ?_
    rw [← hQ]
    exact W.vret hx hb hr (fun t ht hW => ⟨⟨(v_im, b5), rfl, hf.symm, by rw [ht]; exact hP, va_K.moved hW.alike hK, hD⟩, hS.F ht⟩) hS.2.2 dX3_popOrMove_137
  · have hf := hf.trans (kf_eq c1)
    by_cases c9 : a1 = (2 : Int32)
    · have hf := hf.trans (kt_eq c9)
      refine lv_tableIn (off := 120) (tgt := 121) hx hb dX3_popOrMove_1 (by rw [c9]; decide) (by rw [c9]; decide) (by rw [c9]; decide) (by decide) ?_
      refine lv_aload_n hx hb dX3_popOrMove_121 rfl (lv_at hl 0 rfl) ?_
      refine va_get (D := D) (ci := 3) (v := .ref rg) (C := RX3) (T := TX3) (N := 8) hx hb hws inlX3 hown hK hP 0 rfl rfl 1 (by decide) (hws _ mw_20) (fun _ h9 => h9) rfl dX3_popOrMove_122 ?_
      refine lv_iload_n hx hb dX3_popOrMove_125 rfl (lv_at hl 1 rfl) ?_
      refine kc_Si (As := [.int a1]) (rest := [.ref rg]) ⟨hx, hb, hml, hown, hws⟩ hK hP hD hS hA hT (c_X3_stackPair l D H.size a1) (va_cwS 1 hws (gw_S mw_339 mw_340 mw_2 mw_341) rfl rfl rfl hdX3_stackPair.2 ⟨Nat.le_of_ble_eq_true rfl, Nat.le_of_ble_eq_true rfl⟩) rfl hl.1 rfl (Nat.le_of_ble_eq_true rfl) dX3_popOrMove_126 ⟨Nat.zero_le _, Nat.zero_le _⟩ (fun r10 H locs hwr10 hP hD hS => ?_)
      have hf := hf.trans (kE1 hwr10)
      refine lv_aload_n hx hb dX3_popOrMove_129 rfl (lv_at hl 0 rfl) ?_
      refine kc_Vi (wr := []) (As := []) (rest := [.int r10, .ref rg]) (fun u9 => (kX3 cB cI gc me ba rg wa sm v_im v_ei v_ha v_hb v_cy v_by v_ct u9)) ⟨hx, hb, hml, hown, hws⟩ hK hP hD hS hA hT (c_X3_pop l D cB cI gc me ba rg wa sm H.size v_im v_ei v_ha v_hb v_cy v_by v_ct v_wd ) (cwV 0 hws (gw_V mw_322 mw_323 mw_324 mw_2 mw_325) rfl rfl rfl hdX3_pop ⟨Nat.le_of_ble_eq_true rfl, Nat.le_of_ble_eq_true rfl⟩) [0, 1, 2, 3, 4, 5] [] [0, 1] [0, 1, 2, 3, 4, 5] rfl rfl rfl rfl (by decide) rfl (fun _ => rfl) rfl 0 rfl rfl rfl rfl hl.1 rfl (Nat.le_of_ble_eq_true rfl) dX3_popOrMove_130 ⟨Nat.zero_le _, Nat.zero_le _⟩ (fun r13 b11 H locs hw12 hP hD hS => ?_)
      have hP : va_P D vwCl (kX3 cB cI gc me ba rg wa sm v_im v_ei v_ha v_hb v_cy v_by v_ct b11) H := hP
      have hD : va_D A (kX3 cB cI gc me ba rg wa sm v_im v_ei v_ha v_hb v_cy v_by v_ct b11) := hD
      have hf := hf.trans (kE2 hw12)
      refine kc_Vi (wr := [(gc, .inr (3, [.ref me, .ref rg, .ref sm, .int (bI v_im), .int (bI v_ei), .int (bI v_ha), .int (bI v_hb), .int v_cy])), (me, .inr (0, [.ref ba, .int v_ct])), (ba, .inl (cB, 65536, .inl v_by)), (sm, .inr (2, [.ref rg]))]) (As := [.int r10, .int r13]) (rest := []) (fun u9 => (kX3 cB cI gc me ba rg wa sm v_im v_ei v_ha v_hb v_cy v_by v_ct u9)) ⟨hx, hb, hml, hown, hws⟩ hK hP hD hS hA hT (c_X1_setWord l D cI rg wa H.size b11 r10 r13) (cwV 2 hws (gw_V mw_137 mw_138 mw_139 mw_32 mw_140) rfl rfl rfl hdX1_setWord ⟨Nat.le_of_ble_eq_true rfl, Nat.le_of_ble_eq_true rfl⟩) [3, 4] [0, 1, 2, 5] [1] [0, 1, 2, 4, 5, 3] rfl rfl rfl rfl (by decide) rfl (fun _ => rfl) rfl 3 rfl rfl rfl rfl hl.1 rfl (Nat.le_of_ble_eq_true rfl) dX3_popOrMove_133 ⟨Nat.zero_le _, Nat.zero_le _⟩ (fun r16 b14 H locs hw15 hP hD hS => ?_)
      obtain ⟨z17, rfl, hw15⟩ := hw15
      have hP : va_P D vwCl (kX3 cB cI gc me ba rg wa sm v_im v_ei v_ha v_hb v_cy v_by v_ct b14) H := hP
      have hD : va_D A (kX3 cB cI gc me ba rg wa sm v_im v_ei v_ha v_hb v_cy v_by v_ct b14) := hD
      have hf := hf.trans (kE2 hw15)
      refine lv_pop hx hb dX3_popOrMove_136 rfl ?_
      rw [← hQ]
      exact W.vret hx hb hr (fun t ht hW => ⟨⟨(v_im, b14), rfl, hf.symm, by rw [ht]; exact hP, va_K.moved hW.alike hK, hD⟩, hS.F ht⟩) hS.2.2 dX3_popOrMove_137
    · have hf := hf.trans (kf_eq c9)
      by_cases c18 : a1 = (3 : Int32)
      · have hf := hf.trans (kt_eq c18)
        refine lv_tableIn (off := 59) (tgt := 60) hx hb dX3_popOrMove_1 (by rw [c18]; decide) (by rw [c18]; decide) (by rw [c18]; decide) (by decide) ?_
        refine lv_aload_n hx hb dX3_popOrMove_60 rfl (lv_at hl 0 rfl) ?_
        refine va_get (D := D) (ci := 3) (v := .ref rg) (C := RX3) (T := TX3) (N := 8) hx hb hws inlX3 hown hK hP 0 rfl rfl 1 (by decide) (hws _ mw_20) (fun _ h9 => h9) rfl dX3_popOrMove_61 ?_
        refine lv_iconst (v := 5) hx hb dX3_popOrMove_64 (by decide) ?_
        refine lv_aload_n hx hb dX3_popOrMove_65 rfl (lv_at hl 0 rfl) ?_
        refine kc_Vi (wr := []) (As := []) (rest := [.int (5 : Int32), .ref rg]) (fun u9 => (kX3 cB cI gc me ba rg wa sm v_im v_ei v_ha v_hb v_cy v_by v_ct u9)) ⟨hx, hb, hml, hown, hws⟩ hK hP hD hS hA hT (c_X3_pop l D cB cI gc me ba rg wa sm H.size v_im v_ei v_ha v_hb v_cy v_by v_ct v_wd ) (cwV 0 hws (gw_V mw_322 mw_323 mw_324 mw_2 mw_325) rfl rfl rfl hdX3_pop ⟨Nat.le_of_ble_eq_true rfl, Nat.le_of_ble_eq_true rfl⟩) [0, 1, 2, 3, 4, 5] [] [0, 1] [0, 1, 2, 3, 4, 5] rfl rfl rfl rfl (by decide) rfl (fun _ => rfl) rfl 0 rfl rfl rfl rfl hl.1 rfl (Nat.le_of_ble_eq_true rfl) dX3_popOrMove_66 ⟨Nat.zero_le _, Nat.zero_le _⟩ (fun r21 b19 H locs hw20 hP hD hS => ?_)
        have hP : va_P D vwCl (kX3 cB cI gc me ba rg wa sm v_im v_ei v_ha v_hb v_cy v_by v_ct b19) H := hP
        have hD : va_D A (kX3 cB cI gc me ba rg wa sm v_im v_ei v_ha v_hb v_cy v_by v_ct b19) := hD
        have hf := hf.trans (kE2 hw20)
        refine kc_Vi (wr := [(gc, .inr (3, [.ref me, .ref rg, .ref sm, .int (bI v_im), .int (bI v_ei), .int (bI v_ha), .int (bI v_hb), .int v_cy])), (me, .inr (0, [.ref ba, .int v_ct])), (ba, .inl (cB, 65536, .inl v_by)), (sm, .inr (2, [.ref rg]))]) (As := [.int (5 : Int32), .int r21]) (rest := []) (fun u9 => (kX3 cB cI gc me ba rg wa sm v_im v_ei v_ha v_hb v_cy v_by v_ct u9)) ⟨hx, hb, hml, hown, hws⟩ hK hP hD hS hA hT (c_X1_setWord l D cI rg wa H.size b19 (5 : Int32) r21) (cwV 2 hws (gw_V mw_137 mw_138 mw_139 mw_32 mw_140) rfl rfl rfl hdX1_setWord ⟨Nat.le_of_ble_eq_true rfl, Nat.le_of_ble_eq_true rfl⟩) [3, 4] [0, 1, 2, 5] [1] [0, 1, 2, 4, 5, 3] rfl rfl rfl rfl (by decide) rfl (fun _ => rfl) rfl 3 rfl rfl rfl rfl hl.1 rfl (Nat.le_of_ble_eq_true rfl) dX3_popOrMove_69 ⟨Nat.zero_le _, Nat.zero_le _⟩ (fun r24 b22 H locs hw23 hP hD hS => ?_)
        obtain ⟨z25, rfl, hw23⟩ := hw23
        have hP : va_P D vwCl (kX3 cB cI gc me ba rg wa sm v_im v_ei v_ha v_hb v_cy v_by v_ct b22) H := hP
        have hD : va_D A (kX3 cB cI gc me ba rg wa sm v_im v_ei v_ha v_hb v_cy v_by v_ct b22) := hD
        have hf := hf.trans (kE2 hw23)
        refine lv_pop hx hb dX3_popOrMove_72 rfl ?_
        refine lv_aload_n hx hb dX3_popOrMove_73 rfl (lv_at hl 0 rfl) ?_
        refine lv_iconst (v := 1) hx hb dX3_popOrMove_74 (by decide) ?_
        refine va_put (D := D) (ci := 3) (v := .int (bI true)) (ty := .boolean) (C := RX3) (T := TX3) (N := 8) hx hb hws inlX3 tyX3 tyX3_ok nmX3 hown hK hP hD hS 0 rfl rfl 3 (by decide) (hws _ mw_105) (fun _ h9 => h9) rfl (tyX3_ok 3 (by decide)) (bI_nar _) (bI_fit _) (Nat.le_of_ble_eq_true rfl) dX3_popOrMove_75 (fun H locs hP hD hS => ?_)
        have hP : va_P D vwCl (kX3 cB cI gc me ba rg wa sm true v_ei v_ha v_hb v_cy v_by v_ct b22) H := hP
        have hD : va_D A (kX3 cB cI gc me ba rg wa sm true v_ei v_ha v_hb v_cy v_by v_ct b22) := hD
        refine lv_goto (tgt := 137) hx hb dX3_popOrMove_78 (by decide) ?_
        rw [← hQ]
        exact W.vret hx hb hr (fun t ht hW => ⟨⟨(true, b22), rfl, hf.symm, by rw [ht]; exact hP, va_K.moved hW.alike hK, hD⟩, hS.F ht⟩) hS.2.2 dX3_popOrMove_137
      · have hf := hf.trans (kf_eq c18)
        by_cases c26 : a1 = (4 : Int32)
        · have hf := hf.trans (kt_eq c26)
          refine lv_tableIn (off := 120) (tgt := 121) hx hb dX3_popOrMove_1 (by rw [c26]; decide) (by rw [c26]; decide) (by rw [c26]; decide) (by decide) ?_
          refine lv_aload_n hx hb dX3_popOrMove_121 rfl (lv_at hl 0 rfl) ?_
          refine va_get (D := D) (ci := 3) (v := .ref rg) (C := RX3) (T := TX3) (N := 8) hx hb hws inlX3 hown hK hP 0 rfl rfl 1 (by decide) (hws _ mw_20) (fun _ h9 => h9) rfl dX3_popOrMove_122 ?_
          refine lv_iload_n hx hb dX3_popOrMove_125 rfl (lv_at hl 1 rfl) ?_
          refine kc_Si (As := [.int a1]) (rest := [.ref rg]) ⟨hx, hb, hml, hown, hws⟩ hK hP hD hS hA hT (c_X3_stackPair l D H.size a1) (va_cwS 1 hws (gw_S mw_339 mw_340 mw_2 mw_341) rfl rfl rfl hdX3_stackPair.2 ⟨Nat.le_of_ble_eq_true rfl, Nat.le_of_ble_eq_true rfl⟩) rfl hl.1 rfl (Nat.le_of_ble_eq_true rfl) dX3_popOrMove_126 ⟨Nat.zero_le _, Nat.zero_le _⟩ (fun r27 H locs hwr27 hP hD hS => ?_)
          have hf := hf.trans (kE1 hwr27)
          refine lv_aload_n hx hb dX3_popOrMove_129 rfl (lv_at hl 0 rfl) ?_
          refine kc_Vi (wr := []) (As := []) (rest := [.int r27, .ref rg]) (fun u9 => (kX3 cB cI gc me ba rg wa sm v_im v_ei v_ha v_hb v_cy v_by v_ct u9)) ⟨hx, hb, hml, hown, hws⟩ hK hP hD hS hA hT (c_X3_pop l D cB cI gc me ba rg wa sm H.size v_im v_ei v_ha v_hb v_cy v_by v_ct v_wd ) (cwV 0 hws (gw_V mw_322 mw_323 mw_324 mw_2 mw_325) rfl rfl rfl hdX3_pop ⟨Nat.le_of_ble_eq_true rfl, Nat.le_of_ble_eq_true rfl⟩) [0, 1, 2, 3, 4, 5] [] [0, 1] [0, 1, 2, 3, 4, 5] rfl rfl rfl rfl (by decide) rfl (fun _ => rfl) rfl 0 rfl rfl rfl rfl hl.1 rfl (Nat.le_of_ble_eq_true rfl) dX3_popOrMove_130 ⟨Nat.zero_le _, Nat.zero_le _⟩ (fun r30 b28 H locs hw29 hP hD hS => ?_)
          have hP : va_P D vwCl (kX3 cB cI gc me ba rg wa sm v_im v_ei v_ha v_hb v_cy v_by v_ct b28) H := hP
          have hD : va_D A (kX3 cB cI gc me ba rg wa sm v_im v_ei v_ha v_hb v_cy v_by v_ct b28) := hD
          have hf := hf.trans (kE2 hw29)
          refine kc_Vi (wr := [(gc, .inr (3, [.ref me, .ref rg, .ref sm, .int (bI v_im), .int (bI v_ei), .int (bI v_ha), .int (bI v_hb), .int v_cy])), (me, .inr (0, [.ref ba, .int v_ct])), (ba, .inl (cB, 65536, .inl v_by)), (sm, .inr (2, [.ref rg]))]) (As := [.int r27, .int r30]) (rest := []) (fun u9 => (kX3 cB cI gc me ba rg wa sm v_im v_ei v_ha v_hb v_cy v_by v_ct u9)) ⟨hx, hb, hml, hown, hws⟩ hK hP hD hS hA hT (c_X1_setWord l D cI rg wa H.size b28 r27 r30) (cwV 2 hws (gw_V mw_137 mw_138 mw_139 mw_32 mw_140) rfl rfl rfl hdX1_setWord ⟨Nat.le_of_ble_eq_true rfl, Nat.le_of_ble_eq_true rfl⟩) [3, 4] [0, 1, 2, 5] [1] [0, 1, 2, 4, 5, 3] rfl rfl rfl rfl (by decide) rfl (fun _ => rfl) rfl 3 rfl rfl rfl rfl hl.1 rfl (Nat.le_of_ble_eq_true rfl) dX3_popOrMove_133 ⟨Nat.zero_le _, Nat.zero_le _⟩ (fun r33 b31 H locs hw32 hP hD hS => ?_)
          obtain ⟨z34, rfl, hw32⟩ := hw32
          have hP : va_P D vwCl (kX3 cB cI gc me ba rg wa sm v_im v_ei v_ha v_hb v_cy v_by v_ct b31) H := hP
          have hD : va_D A (kX3 cB cI gc me ba rg wa sm v_im v_ei v_ha v_hb v_cy v_by v_ct b31) := hD
          have hf := hf.trans (kE2 hw32)
          refine lv_pop hx hb dX3_popOrMove_136 rfl ?_
          rw [← hQ]
          exact W.vret hx hb hr (fun t ht hW => ⟨⟨(v_im, b31), rfl, hf.symm, by rw [ht]; exact hP, va_K.moved hW.alike hK, hD⟩, hS.F ht⟩) hS.2.2 dX3_popOrMove_137
        · have hf := hf.trans (kf_eq c26)
          by_cases c35 : a1 = (5 : Int32)
          · have hf := hf.trans (kt_eq c35)
            refine lv_tableIn (off := 80) (tgt := 81) hx hb dX3_popOrMove_1 (by rw [c35]; decide) (by rw [c35]; decide) (by rw [c35]; decide) (by decide) ?_
            refine lv_aload_n hx hb dX3_popOrMove_81 rfl (lv_at hl 0 rfl) ?_
            refine va_get (D := D) (ci := 3) (v := .ref rg) (C := RX3) (T := TX3) (N := 8) hx hb hws inlX3 hown hK hP 0 rfl rfl 1 (by decide) (hws _ mw_20) (fun _ h9 => h9) rfl dX3_popOrMove_82 ?_
            refine lv_iconst (v := 5) hx hb dX3_popOrMove_85 (by decide) ?_
            refine lv_aload_n hx hb dX3_popOrMove_86 rfl (lv_at hl 0 rfl) ?_
            refine va_get (D := D) (ci := 3) (v := .ref rg) (C := RX3) (T := TX3) (N := 8) hx hb hws inlX3 hown hK hP 0 rfl rfl 1 (by decide) (hws _ mw_20) (fun _ h9 => h9) rfl dX3_popOrMove_87 ?_
            refine lv_iconst (v := 3) hx hb dX3_popOrMove_90 (by decide) ?_
            refine kc_Vi (wr := [(gc, .inr (3, [.ref me, .ref rg, .ref sm, .int (bI v_im), .int (bI v_ei), .int (bI v_ha), .int (bI v_hb), .int v_cy])), (me, .inr (0, [.ref ba, .int v_ct])), (ba, .inl (cB, 65536, .inl v_by)), (sm, .inr (2, [.ref rg]))]) (As := [.int (3 : Int32)]) (rest := [.int (5 : Int32), .ref rg]) (fun _ => (kX3 cB cI gc me ba rg wa sm v_im v_ei v_ha v_hb v_cy v_by v_ct v_wd)) ⟨hx, hb, hml, hown, hws⟩ hK hP hD hS hA hT (c_X1_word l D cI rg wa H.size v_wd (3 : Int32)) (cwV 1 hws (gw_V mw_123 mw_124 mw_125 mw_32 mw_126) rfl rfl rfl hdX1_word ⟨Nat.le_of_ble_eq_true rfl, Nat.le_of_ble_eq_true rfl⟩) [3, 4] [0, 1, 2, 5] [1] [0, 1, 2, 4, 5, 3] rfl rfl rfl rfl (by decide) rfl (fun _ => rfl) rfl 3 rfl rfl rfl rfl hl.1 rfl (Nat.le_of_ble_eq_true rfl) dX3_popOrMove_91 ⟨Nat.zero_le _, Nat.zero_le _⟩ (fun r37 _ H locs hw36 hP hD hS => ?_)
            have hP : va_P D vwCl (kX3 cB cI gc me ba rg wa sm v_im v_ei v_ha v_hb v_cy v_by v_ct v_wd) H := hP
            have hD : va_D A (kX3 cB cI gc me ba rg wa sm v_im v_ei v_ha v_hb v_cy v_by v_ct v_wd) := hD
            have hf := hf.trans (kE1 hw36)
            refine kc_Vi (wr := [(gc, .inr (3, [.ref me, .ref rg, .ref sm, .int (bI v_im), .int (bI v_ei), .int (bI v_ha), .int (bI v_hb), .int v_cy])), (me, .inr (0, [.ref ba, .int v_ct])), (ba, .inl (cB, 65536, .inl v_by)), (sm, .inr (2, [.ref rg]))]) (As := [.int (5 : Int32), .int r37]) (rest := []) (fun u9 => (kX3 cB cI gc me ba rg wa sm v_im v_ei v_ha v_hb v_cy v_by v_ct u9)) ⟨hx, hb, hml, hown, hws⟩ hK hP hD hS hA hT (c_X1_setWord l D cI rg wa H.size v_wd (5 : Int32) r37) (cwV 2 hws (gw_V mw_137 mw_138 mw_139 mw_32 mw_140) rfl rfl rfl hdX1_setWord ⟨Nat.le_of_ble_eq_true rfl, Nat.le_of_ble_eq_true rfl⟩) [3, 4] [0, 1, 2, 5] [1] [0, 1, 2, 4, 5, 3] rfl rfl rfl rfl (by decide) rfl (fun _ => rfl) rfl 3 rfl rfl rfl rfl hl.1 rfl (Nat.le_of_ble_eq_true rfl) dX3_popOrMove_94 ⟨Nat.zero_le _, Nat.zero_le _⟩ (fun r40 b38 H locs hw39 hP hD hS => ?_)
            obtain ⟨z41, rfl, hw39⟩ := hw39
            have hP : va_P D vwCl (kX3 cB cI gc me ba rg wa sm v_im v_ei v_ha v_hb v_cy v_by v_ct b38) H := hP
            have hD : va_D A (kX3 cB cI gc me ba rg wa sm v_im v_ei v_ha v_hb v_cy v_by v_ct b38) := hD
            have hf := hf.trans (kE2 hw39)
            refine lv_pop hx hb dX3_popOrMove_97 rfl ?_
            refine lv_goto (tgt := 137) hx hb dX3_popOrMove_98 (by decide) ?_
            rw [← hQ]
            exact W.vret hx hb hr (fun t ht hW => ⟨⟨(v_im, b38), rfl, hf.symm, by rw [ht]; exact hP, va_K.moved hW.alike hK, hD⟩, hS.F ht⟩) hS.2.2 dX3_popOrMove_137
          · have hf := hf.trans (kf_eq c35)
            by_cases c42 : a1 = (6 : Int32)
            · have hf := hf.trans (kt_eq c42)
              refine lv_tableIn (off := 120) (tgt := 121) hx hb dX3_popOrMove_1 (by rw [c42]; decide) (by rw [c42]; decide) (by rw [c42]; decide) (by decide) ?_
              refine lv_aload_n hx hb dX3_popOrMove_121 rfl (lv_at hl 0 rfl) ?_
              refine va_get (D := D) (ci := 3) (v := .ref rg) (C := RX3) (T := TX3) (N := 8) hx hb hws inlX3 hown hK hP 0 rfl rfl 1 (by decide) (hws _ mw_20) (fun _ h9 => h9) rfl dX3_popOrMove_122 ?_
              refine lv_iload_n hx hb dX3_popOrMove_125 rfl (lv_at hl 1 rfl) ?_
              refine kc_Si (As := [.int a1]) (rest := [.ref rg]) ⟨hx, hb, hml, hown, hws⟩ hK hP hD hS hA hT (c_X3_stackPair l D H.size a1) (va_cwS 1 hws (gw_S mw_339 mw_340 mw_2 mw_341) rfl rfl rfl hdX3_stackPair.2 ⟨Nat.le_of_ble_eq_true rfl, Nat.le_of_ble_eq_true rfl⟩) rfl hl.1 rfl (Nat.le_of_ble_eq_true rfl) dX3_popOrMove_126 ⟨Nat.zero_le _, Nat.zero_le _⟩ (fun r43 H locs hwr43 hP hD hS => ?_)
              have hf := hf.trans (kE1 hwr43)
              refine lv_aload_n hx hb dX3_popOrMove_129 rfl (lv_at hl 0 rfl) ?_
              refine kc_Vi (wr := []) (As := []) (rest := [.int r43, .ref rg]) (fun u9 => (kX3 cB cI gc me ba rg wa sm v_im v_ei v_ha v_hb v_cy v_by v_ct u9)) ⟨hx, hb, hml, hown, hws⟩ hK hP hD hS hA hT (c_X3_pop l D cB cI gc me ba rg wa sm H.size v_im v_ei v_ha v_hb v_cy v_by v_ct v_wd ) (cwV 0 hws (gw_V mw_322 mw_323 mw_324 mw_2 mw_325) rfl rfl rfl hdX3_pop ⟨Nat.le_of_ble_eq_true rfl, Nat.le_of_ble_eq_true rfl⟩) [0, 1, 2, 3, 4, 5] [] [0, 1] [0, 1, 2, 3, 4, 5] rfl rfl rfl rfl (by decide) rfl (fun _ => rfl) rfl 0 rfl rfl rfl rfl hl.1 rfl (Nat.le_of_ble_eq_true rfl) dX3_popOrMove_130 ⟨Nat.zero_le _, Nat.zero_le _⟩ (fun r46 b44 H locs hw45 hP hD hS => ?_)
              have hP : va_P D vwCl (kX3 cB cI gc me ba rg wa sm v_im v_ei v_ha v_hb v_cy v_by v_ct b44) H := hP
              have hD : va_D A (kX3 cB cI gc me ba rg wa sm v_im v_ei v_ha v_hb v_cy v_by v_ct b44) := hD
              have hf := hf.trans (kE2 hw45)
              refine kc_Vi (wr := [(gc, .inr (3, [.ref me, .ref rg, .ref sm, .int (bI v_im), .int (bI v_ei), .int (bI v_ha), .int (bI v_hb), .int v_cy])), (me, .inr (0, [.ref ba, .int v_ct])), (ba, .inl (cB, 65536, .inl v_by)), (sm, .inr (2, [.ref rg]))]) (As := [.int r43, .int r46]) (rest := []) (fun u9 => (kX3 cB cI gc me ba rg wa sm v_im v_ei v_ha v_hb v_cy v_by v_ct u9)) ⟨hx, hb, hml, hown, hws⟩ hK hP hD hS hA hT (c_X1_setWord l D cI rg wa H.size b44 r43 r46) (cwV 2 hws (gw_V mw_137 mw_138 mw_139 mw_32 mw_140) rfl rfl rfl hdX1_setWord ⟨Nat.le_of_ble_eq_true rfl, Nat.le_of_ble_eq_true rfl⟩) [3, 4] [0, 1, 2, 5] [1] [0, 1, 2, 4, 5, 3] rfl rfl rfl rfl (by decide) rfl (fun _ => rfl) rfl 3 rfl rfl rfl rfl hl.1 rfl (Nat.le_of_ble_eq_true rfl) dX3_popOrMove_133 ⟨Nat.zero_le _, Nat.zero_le _⟩ (fun r49 b47 H locs hw48 hP hD hS => ?_)
              obtain ⟨z50, rfl, hw48⟩ := hw48
              have hP : va_P D vwCl (kX3 cB cI gc me ba rg wa sm v_im v_ei v_ha v_hb v_cy v_by v_ct b47) H := hP
              have hD : va_D A (kX3 cB cI gc me ba rg wa sm v_im v_ei v_ha v_hb v_cy v_by v_ct b47) := hD
              have hf := hf.trans (kE2 hw48)
              refine lv_pop hx hb dX3_popOrMove_136 rfl ?_
              rw [← hQ]
              exact W.vret hx hb hr (fun t ht hW => ⟨⟨(v_im, b47), rfl, hf.symm, by rw [ht]; exact hP, va_K.moved hW.alike hK, hD⟩, hS.F ht⟩) hS.2.2 dX3_popOrMove_137
            · have hf := hf.trans (kf_eq c42)
              by_cases c51 : a1 = (7 : Int32)
              · have hf := hf.trans (kt_eq c51)
                refine lv_tableIn (off := 100) (tgt := 101) hx hb dX3_popOrMove_1 (by rw [c51]; decide) (by rw [c51]; decide) (by rw [c51]; decide) (by decide) ?_
                refine lv_aload_n hx hb dX3_popOrMove_101 rfl (lv_at hl 0 rfl) ?_
                refine va_get (D := D) (ci := 3) (v := .ref rg) (C := RX3) (T := TX3) (N := 8) hx hb hws inlX3 hown hK hP 0 rfl rfl 1 (by decide) (hws _ mw_20) (fun _ h9 => h9) rfl dX3_popOrMove_102 ?_
                refine lv_iconst (v := 4) hx hb dX3_popOrMove_105 (by decide) ?_
                refine lv_aload_n hx hb dX3_popOrMove_106 rfl (lv_at hl 0 rfl) ?_
                refine va_get (D := D) (ci := 3) (v := .ref rg) (C := RX3) (T := TX3) (N := 8) hx hb hws inlX3 hown hK hP 0 rfl rfl 1 (by decide) (hws _ mw_20) (fun _ h9 => h9) rfl dX3_popOrMove_107 ?_
                refine lv_iconst (v := 3) hx hb dX3_popOrMove_110 (by decide) ?_
                refine kc_Vi (wr := [(gc, .inr (3, [.ref me, .ref rg, .ref sm, .int (bI v_im), .int (bI v_ei), .int (bI v_ha), .int (bI v_hb), .int v_cy])), (me, .inr (0, [.ref ba, .int v_ct])), (ba, .inl (cB, 65536, .inl v_by)), (sm, .inr (2, [.ref rg]))]) (As := [.int (3 : Int32)]) (rest := [.int (4 : Int32), .ref rg]) (fun _ => (kX3 cB cI gc me ba rg wa sm v_im v_ei v_ha v_hb v_cy v_by v_ct v_wd)) ⟨hx, hb, hml, hown, hws⟩ hK hP hD hS hA hT (c_X1_word l D cI rg wa H.size v_wd (3 : Int32)) (cwV 1 hws (gw_V mw_123 mw_124 mw_125 mw_32 mw_126) rfl rfl rfl hdX1_word ⟨Nat.le_of_ble_eq_true rfl, Nat.le_of_ble_eq_true rfl⟩) [3, 4] [0, 1, 2, 5] [1] [0, 1, 2, 4, 5, 3] rfl rfl rfl rfl (by decide) rfl (fun _ => rfl) rfl 3 rfl rfl rfl rfl hl.1 rfl (Nat.le_of_ble_eq_true rfl) dX3_popOrMove_111 ⟨Nat.zero_le _, Nat.zero_le _⟩ (fun r53 _ H locs hw52 hP hD hS => ?_)
                have hP : va_P D vwCl (kX3 cB cI gc me ba rg wa sm v_im v_ei v_ha v_hb v_cy v_by v_ct v_wd) H := hP
                have hD : va_D A (kX3 cB cI gc me ba rg wa sm v_im v_ei v_ha v_hb v_cy v_by v_ct v_wd) := hD
                have hf := hf.trans (kE1 hw52)
                refine kc_Vi (wr := [(gc, .inr (3, [.ref me, .ref rg, .ref sm, .int (bI v_im), .int (bI v_ei), .int (bI v_ha), .int (bI v_hb), .int v_cy])), (me, .inr (0, [.ref ba, .int v_ct])), (ba, .inl (cB, 65536, .inl v_by)), (sm, .inr (2, [.ref rg]))]) (As := [.int (4 : Int32), .int r53]) (rest := []) (fun u9 => (kX3 cB cI gc me ba rg wa sm v_im v_ei v_ha v_hb v_cy v_by v_ct u9)) ⟨hx, hb, hml, hown, hws⟩ hK hP hD hS hA hT (c_X1_setWord l D cI rg wa H.size v_wd (4 : Int32) r53) (cwV 2 hws (gw_V mw_137 mw_138 mw_139 mw_32 mw_140) rfl rfl rfl hdX1_setWord ⟨Nat.le_of_ble_eq_true rfl, Nat.le_of_ble_eq_true rfl⟩) [3, 4] [0, 1, 2, 5] [1] [0, 1, 2, 4, 5, 3] rfl rfl rfl rfl (by decide) rfl (fun _ => rfl) rfl 3 rfl rfl rfl rfl hl.1 rfl (Nat.le_of_ble_eq_true rfl) dX3_popOrMove_114 ⟨Nat.zero_le _, Nat.zero_le _⟩ (fun r56 b54 H locs hw55 hP hD hS => ?_)
                obtain ⟨z57, rfl, hw55⟩ := hw55
                have hP : va_P D vwCl (kX3 cB cI gc me ba rg wa sm v_im v_ei v_ha v_hb v_cy v_by v_ct b54) H := hP
                have hD : va_D A (kX3 cB cI gc me ba rg wa sm v_im v_ei v_ha v_hb v_cy v_by v_ct b54) := hD
                have hf := hf.trans (kE2 hw55)
                refine lv_pop hx hb dX3_popOrMove_117 rfl ?_
                refine lv_goto (tgt := 137) hx hb dX3_popOrMove_118 (by decide) ?_
                rw [← hQ]
                exact W.vret hx hb hr (fun t ht hW => ⟨⟨(v_im, b54), rfl, hf.symm, by rw [ht]; exact hP, va_K.moved hW.alike hK, hD⟩, hS.F ht⟩) hS.2.2 dX3_popOrMove_137
              · have hf := hf.trans (kf_eq c51)
                refine lv_tableOut (tgt := 121) hx hb dX3_popOrMove_1 (by have n1 := lv_neT c1 (a := 1) rfl; have n2 := lv_neT c9 (a := 2) rfl; have n3 := lv_neT c18 (a := 3) rfl; have n4 := lv_neT c26 (a := 4) rfl; have n5 := lv_neT c35 (a := 5) rfl; have n6 := lv_neT c42 (a := 6) rfl; have n7 := lv_neT c51 (a := 7) rfl; omega) (by decide) ?_
                refine lv_aload_n hx hb dX3_popOrMove_121 rfl (lv_at hl 0 rfl) ?_
                refine va_get (D := D) (ci := 3) (v := .ref rg) (C := RX3) (T := TX3) (N := 8) hx hb hws inlX3 hown hK hP 0 rfl rfl 1 (by decide) (hws _ mw_20) (fun _ h9 => h9) rfl dX3_popOrMove_122 ?_
                refine lv_iload_n hx hb dX3_popOrMove_125 rfl (lv_at hl 1 rfl) ?_
                refine kc_Si (As := [.int a1]) (rest := [.ref rg]) ⟨hx, hb, hml, hown, hws⟩ hK hP hD hS hA hT (c_X3_stackPair l D H.size a1) (va_cwS 1 hws (gw_S mw_339 mw_340 mw_2 mw_341) rfl rfl rfl hdX3_stackPair.2 ⟨Nat.le_of_ble_eq_true rfl, Nat.le_of_ble_eq_true rfl⟩) rfl hl.1 rfl (Nat.le_of_ble_eq_true rfl) dX3_popOrMove_126 ⟨Nat.zero_le _, Nat.zero_le _⟩ (fun r58 H locs hwr58 hP hD hS => ?_)
                have hf := hf.trans (kE1 hwr58)
                refine lv_aload_n hx hb dX3_popOrMove_129 rfl (lv_at hl 0 rfl) ?_
                refine kc_Vi (wr := []) (As := []) (rest := [.int r58, .ref rg]) (fun u9 => (kX3 cB cI gc me ba rg wa sm v_im v_ei v_ha v_hb v_cy v_by v_ct u9)) ⟨hx, hb, hml, hown, hws⟩ hK hP hD hS hA hT (c_X3_pop l D cB cI gc me ba rg wa sm H.size v_im v_ei v_ha v_hb v_cy v_by v_ct v_wd ) (cwV 0 hws (gw_V mw_322 mw_323 mw_324 mw_2 mw_325) rfl rfl rfl hdX3_pop ⟨Nat.le_of_ble_eq_true rfl, Nat.le_of_ble_eq_true rfl⟩) [0, 1, 2, 3, 4, 5] [] [0, 1] [0, 1, 2, 3, 4, 5] rfl rfl rfl rfl (by decide) rfl (fun _ => rfl) rfl 0 rfl rfl rfl rfl hl.1 rfl (Nat.le_of_ble_eq_true rfl) dX3_popOrMove_130 ⟨Nat.zero_le _, Nat.zero_le _⟩ (fun r61 b59 H locs hw60 hP hD hS => ?_)
                have hP : va_P D vwCl (kX3 cB cI gc me ba rg wa sm v_im v_ei v_ha v_hb v_cy v_by v_ct b59) H := hP
                have hD : va_D A (kX3 cB cI gc me ba rg wa sm v_im v_ei v_ha v_hb v_cy v_by v_ct b59) := hD
                have hf := hf.trans (kE2 hw60)
                refine kc_Vi (wr := [(gc, .inr (3, [.ref me, .ref rg, .ref sm, .int (bI v_im), .int (bI v_ei), .int (bI v_ha), .int (bI v_hb), .int v_cy])), (me, .inr (0, [.ref ba, .int v_ct])), (ba, .inl (cB, 65536, .inl v_by)), (sm, .inr (2, [.ref rg]))]) (As := [.int r58, .int r61]) (rest := []) (fun u9 => (kX3 cB cI gc me ba rg wa sm v_im v_ei v_ha v_hb v_cy v_by v_ct u9)) ⟨hx, hb, hml, hown, hws⟩ hK hP hD hS hA hT (c_X1_setWord l D cI rg wa H.size b59 r58 r61) (cwV 2 hws (gw_V mw_137 mw_138 mw_139 mw_32 mw_140) rfl rfl rfl hdX1_setWord ⟨Nat.le_of_ble_eq_true rfl, Nat.le_of_ble_eq_true rfl⟩) [3, 4] [0, 1, 2, 5] [1] [0, 1, 2, 4, 5, 3] rfl rfl rfl rfl (by decide) rfl (fun _ => rfl) rfl 3 rfl rfl rfl rfl hl.1 rfl (Nat.le_of_ble_eq_true rfl) dX3_popOrMove_133 ⟨Nat.zero_le _, Nat.zero_le _⟩ (fun r64 b62 H locs hw63 hP hD hS => ?_)
                obtain ⟨z65, rfl, hw63⟩ := hw63
                have hP : va_P D vwCl (kX3 cB cI gc me ba rg wa sm v_im v_ei v_ha v_hb v_cy v_by v_ct b62) H := hP
                have hD : va_D A (kX3 cB cI gc me ba rg wa sm v_im v_ei v_ha v_hb v_cy v_by v_ct b62) := hD
                have hf := hf.trans (kE2 hw63)
                refine lv_pop hx hb dX3_popOrMove_136 rfl ?_
                rw [← hQ]
                exact W.vret hx hb hr (fun t ht hW => ⟨⟨(v_im, b62), rfl, hf.symm, by rw [ht]; exact hP, va_K.moved hW.alike hK, hD⟩, hS.F ht⟩) hS.2.2 dX3_popOrMove_137
def fX3_jumpIf (v_by : Nat → Int32) (v_wd : Nat → Int32) (a1 : Bool) : Int32 × (Nat → Int32) := (kU2 (fX3_fetchWord v_by v_wd) (fun (r3 : Int32) (b1 : Nat → Int32) => (kIf (kEq (bI a1) (0 : Int32)) ((0 : Int32), b1) (kU2 (fX1_setWord b1 (5 : Int32) r3) (fun (z8 : Bool) (b5 : Nat → Int32) => ((1 : Int32), b5))))))
def rmX3_jumpIf : Room := { frames := 2, cells := 0, slots := 0, locals := 43 }
def wwX3_jumpIf : List Cond := Cond.code yX3_jumpIf cX3_jumpIf 3 (some .int) :: wsL_law
theorem hdX3_jumpIf : yX3_jumpIf.cls = RX3 ∧ yX3_jumpIf.cls ≠ "java/lang/invoke/MethodHandle" ∧ yX3_jumpIf.cls ≠ "java/lang/invoke/VarHandle" ∧ (parseMethodDescriptor yX3_jumpIf.desc).map (fun d => d.parameters.length) = some 1 := by decide +kernel
set_option maxHeartbeats 4000000 in
set_option maxRecDepth 100000 in
theorem c_X3_jumpIf (l : Launch) (D : va_G) (cB : ClassId) (cI : ClassId) (gc me ba rg wa sm sz : Nat) (v_im : Bool) (v_ei : Bool) (v_ha : Bool) (v_hb : Bool) (v_cy : Int32) (v_by : Nat → Int32) (v_ct : Int32) (v_wd : Nat → Int32) (a1 : Bool)  : Met l yX3_jumpIf wwX3_jumpIf rmX3_jumpIf (va_Pc [.ref gc, .int (bI a1)] (kp D (kX3 cB cI gc me ba rg wa sm v_im v_ei v_ha v_hb v_cy v_by v_ct v_wd) [(cB, .byte), (cI, .int)] sz)) (va_Qi (fun (r : Int32) (u9 : (Nat → Int32)) => (r, u9) = fX3_jumpIf v_by v_wd a1) (fun u9 t => kq D (kX3 cB cI gc me ba rg wa sm v_im v_ei v_ha v_hb v_cy v_by v_ct u9) [(cB, .byte), (cI, .int)] (va_A (kX3 cB cI gc me ba rg wa sm v_im v_ei v_ha v_hb v_cy v_by v_ct v_wd) sz) t) (va_A (kX3 cB cI gc me ba rg wa sm v_im v_ei v_ha v_hb v_cy v_by v_ct v_wd) sz)) 0 0 (va_A (kX3 cB cI gc me ba rg wa sm v_im v_ei v_ha v_hb v_cy v_by v_ct v_wd) sz) := by
  refine Met.ofW (cc := cX3_jumpIf) (maxL := 3) (ret := (some .int)) (by decide) rfl ?_
  intro p e s m args below meth c s₁ B hml hv
  obtain ⟨rfl, hsz, hP, hK, hD0, hT⟩ := hv
  have hx := B.exec
  have hb := B.bytes
  have hr := B.returns
  have hts := atoms_spec (ws := wwX3_jumpIf) B.pre
  have hws : ∀ w ∈ wsL_law, w.before _ s = true := fun w h => hts w (List.mem_cons_of_mem _ h)
  have hown : s.vm.findClass RX3 = some m.cls := findClass_of_methodNamed B.named
  have hlocks := B.notSynchronized
  subst hsz
  have hD := hD0.self (sz := s.heap.size)
  generalize hAe : va_A (kX3 cB cI gc me ba rg wa sm v_im v_ei v_ha v_hb v_cy v_by v_ct v_wd) s.heap.size = A at hD hT ⊢
  have hA : ∀ q : Nat, s.heap.size ≤ q → A q := fun q h => by rw [← hAe]; exact Or.inr h
  have hS : va_S A s.heap s.heap [] := va_S.rf
  have hl := lv_entry ([.ref gc, .int (bI a1)]) (n := 3) (Nat.le_of_ble_eq_true rfl)
  rw [lg_entry_eq]
  generalize (lg_sl ([.ref gc, .int (bI a1)]) ++ List.replicate (3 - (lg_sl ([.ref gc, .int (bI a1)])).length) Slot.unset).toArray = ls at hl ⊢
  have hl : lv_has ls 3 [(0, .ref gc), (1, .int (bI a1))] := hl
  generalize hQ : MQ _ _ _ _ _ _ _ = Q
  obtain ⟨H, hHe⟩ : ∃ H : Heap, H = s.heap := ⟨_, rfl⟩
  obtain ⟨locs, hle⟩ : ∃ L : List Loc, L = [] := ⟨_, rfl⟩
  have hP : va_P D vwCl (kX3 cB cI gc me ba rg wa sm v_im v_ei v_ha v_hb v_cy v_by v_ct v_wd) H := by rw [hHe]; exact hP
  have hS : va_S A s.heap H locs := by rw [hHe, hle]; exact hS
  refine kw_start hHe.symm hle.symm ?_
  have hf : fX3_jumpIf v_by v_wd a1 = fX3_jumpIf v_by v_wd a1 := rfl
  refine lv_aload_n hx hb dX3_jumpIf_0 rfl (lv_at hl 0 rfl) ?_
  refine kc_Vi (wr := []) (As := []) (rest := []) (fun u9 => (kX3 cB cI gc me ba rg wa sm v_im v_ei v_ha v_hb v_cy v_by v_ct u9)) ⟨hx, hb, hml, hown, hws⟩ hK hP hD hS hA hT (c_X3_fetchWord l D cB cI gc me ba rg wa sm H.size v_im v_ei v_ha v_hb v_cy v_by v_ct v_wd ) (cwV 0 hws (gw_V mw_235 mw_236 mw_237 mw_2 mw_238) rfl rfl rfl hdX3_fetchWord ⟨Nat.le_of_ble_eq_true rfl, Nat.le_of_ble_eq_true rfl⟩) [0, 1, 2, 3, 4, 5] [] [0, 1] [0, 1, 2, 3, 4, 5] rfl rfl rfl rfl (by decide) rfl (fun _ => rfl) rfl 0 rfl rfl rfl rfl hl.1 rfl (Nat.le_of_ble_eq_true rfl) dX3_jumpIf_1 ⟨Nat.zero_le _, Nat.zero_le _⟩ (fun r3 b1 H locs hw2 hP hD hS => ?_)
  have hP : va_P D vwCl (kX3 cB cI gc me ba rg wa sm v_im v_ei v_ha v_hb v_cy v_by v_ct b1) H := hP
  have hD : va_D A (kX3 cB cI gc me ba rg wa sm v_im v_ei v_ha v_hb v_cy v_by v_ct b1) := hD
  have hf := hf.trans (kE2 hw2)
  refine lv_istore_n (lv' := [(2, .int r3), (0, .ref gc), (1, .int (bI a1))]) hx hb dX3_jumpIf_4 rfl hl (by decide) rfl (fun ls hl => ?_)
  refine lv_iload_n hx hb dX3_jumpIf_5 rfl (lv_at hl 2 rfl) ?_
  refine lv_if_ne (tgt := 11) hx hb dX3_jumpIf_6 (by decide) (fun c4 => ?_) (fun c4 => ?_)
  · have hf := hf.trans (kf_eq c4)
    refine lv_aload_n hx hb dX3_jumpIf_11 rfl (lv_at hl 1 rfl) ?_
    refine va_get (D := D) (ci := 3) (v := .ref rg) (C := RX3) (T := TX3) (N := 8) hx hb hws inlX3 hown hK hP 0 rfl rfl 1 (by decide) (hws _ mw_20) (fun _ h9 => h9) rfl dX3_jumpIf_12 ?_
    refine lv_iconst (v := 5) hx hb dX3_jumpIf_15 (by decide) ?_
    refine lv_iload_n hx hb dX3_jumpIf_16 rfl (lv_at hl 0 rfl) ?_
    refine kc_Vi (wr := [(gc, .inr (3, [.ref me, .ref rg, .ref sm, .int (bI v_im), .int (bI v_ei), .int (bI v_ha), .int (bI v_hb), .int v_cy])), (me, .inr (0, [.ref ba, .int v_ct])), (ba, .inl (cB, 65536, .inl v_by)), (sm, .inr (2, [.ref rg]))]) (As := [.int (5 : Int32), .int r3]) (rest := []) (fun u9 => (kX3 cB cI gc me ba rg wa sm v_im v_ei v_ha v_hb v_cy v_by v_ct u9)) ⟨hx, hb, hml, hown, hws⟩ hK hP hD hS hA hT (c_X1_setWord l D cI rg wa H.size b1 (5 : Int32) r3) (cwV 2 hws (gw_V mw_137 mw_138 mw_139 mw_32 mw_140) rfl rfl rfl hdX1_setWord ⟨Nat.le_of_ble_eq_true rfl, Nat.le_of_ble_eq_true rfl⟩) [3, 4] [0, 1, 2, 5] [1] [0, 1, 2, 4, 5, 3] rfl rfl rfl rfl (by decide) rfl (fun _ => rfl) rfl 3 rfl rfl rfl rfl hl.1 rfl (Nat.le_of_ble_eq_true rfl) dX3_jumpIf_17 ⟨Nat.zero_le _, Nat.zero_le _⟩ (fun r7 b5 H locs hw6 hP hD hS => ?_)
    obtain ⟨z8, rfl, hw6⟩ := hw6
    have hP : va_P D vwCl (kX3 cB cI gc me ba rg wa sm v_im v_ei v_ha v_hb v_cy v_by v_ct b5) H := hP
    have hD : va_D A (kX3 cB cI gc me ba rg wa sm v_im v_ei v_ha v_hb v_cy v_by v_ct b5) := hD
    have hf := hf.trans (kE2 hw6)
    refine lv_pop hx hb dX3_jumpIf_20 rfl ?_
    refine lv_iconst (v := 1) hx hb dX3_jumpIf_21 (by decide) ?_
    rw [← hQ]
    exact W.iret (v := (1 : Int32)) hx hb hr (fun t ht hW => ⟨⟨(1 : Int32), b5, rfl, hf.symm, by rw [ht]; exact hP, va_K.moved hW.alike hK, hD⟩, hS.F ht⟩) hS.2.2 dX3_jumpIf_22
  · have hf := hf.trans (kt_eq c4)
    refine lv_iconst (v := 0) hx hb dX3_jumpIf_9 (by decide) ?_
    rw [← hQ]
    exact W.iret (v := (0 : Int32)) hx hb hr (fun t ht hW => ⟨⟨(0 : Int32), b1, rfl, hf.symm, by rw [ht]; exact hP, va_K.moved hW.alike hK, hD⟩, hS.F ht⟩) hS.2.2 dX3_jumpIf_10
def fX3_loadFar (v_by : Nat → Int32) (v_ct : Int32) (v_wd : Nat → Int32) (a1 : Int32) : Int32 × (Nat → Int32) × Int32 × (Nat → Int32) := (kU2 (((kIf (kEq (a1 &&& (1 : Int32)) (0 : Int32)) (kU1 (fX1_half v_wd (1 : Int32)) (fun (r6 : Int32) => (((65280 : Int32) + r6), v_wd))) (kU2 (fX3_fetchWord v_by v_wd) (fun (r4 : Int32) (b2 : Nat → Int32) => (r4, b2)))) : Int32 × (Nat → Int32))) (fun (x7 : Int32) (b8 : Nat → Int32) => (kU3 (((kIf (kLe (6 : Int32) a1) (kU1 (fX0_at v_by x7) (fun (r12 : Int32) => (kU1 (fX1_setA b8 r12) (fun (b13 : Nat → Int32) => (v_by, v_ct, b13))))) (kU1 (fX1_a b8) (fun (r16 : Int32) => (kU2 (fX0_write v_by v_ct x7 r16) (fun (b17 : Nat → Int32) (b18 : Int32) => (b17, b18, b8)))))) : (Nat → Int32) × Int32 × (Nat → Int32))) (fun (b20 : Nat → Int32) (b21 : Int32) (b22 : Nat → Int32) => ((0 : Int32), b20, b21, b22)))))
def rmX3_loadFar : Room := { frames := 2, cells := 0, slots := 0, locals := 43 }
def wwX3_loadFar : List Cond := Cond.code yX3_loadFar cX3_loadFar 3 (some .int) :: wsL_law
theorem hdX3_loadFar : yX3_loadFar.cls = RX3 ∧ yX3_loadFar.cls ≠ "java/lang/invoke/MethodHandle" ∧ yX3_loadFar.cls ≠ "java/lang/invoke/VarHandle" ∧ (parseMethodDescriptor yX3_loadFar.desc).map (fun d => d.parameters.length) = some 1 := by decide +kernel
set_option maxHeartbeats 4000000 in
set_option maxRecDepth 100000 in
theorem c_X3_loadFar (l : Launch) (D : va_G) (cB : ClassId) (cI : ClassId) (gc me ba rg wa sm sz : Nat) (v_im : Bool) (v_ei : Bool) (v_ha : Bool) (v_hb : Bool) (v_cy : Int32) (v_by : Nat → Int32) (v_ct : Int32) (v_wd : Nat → Int32) (a1 : Int32)  : Met l yX3_loadFar wwX3_loadFar rmX3_loadFar (va_Pc [.ref gc, .int a1] (kp D (kX3 cB cI gc me ba rg wa sm v_im v_ei v_ha v_hb v_cy v_by v_ct v_wd) [(cB, .byte), (cI, .int)] sz)) (va_Qi (fun (r : Int32) (u9 : (Nat → Int32) × Int32 × (Nat → Int32)) => (r, u9) = fX3_loadFar v_by v_ct v_wd a1) (fun u9 t => kq D (kX3 cB cI gc me ba rg wa sm v_im v_ei v_ha v_hb v_cy (u9.1) (u9.2.1) (u9.2.2)) [(cB, .byte), (cI, .int)] (va_A (kX3 cB cI gc me ba rg wa sm v_im v_ei v_ha v_hb v_cy v_by v_ct v_wd) sz) t) (va_A (kX3 cB cI gc me ba rg wa sm v_im v_ei v_ha v_hb v_cy v_by v_ct v_wd) sz)) 0 0 (va_A (kX3 cB cI gc me ba rg wa sm v_im v_ei v_ha v_hb v_cy v_by v_ct v_wd) sz) := by
  refine Met.ofW (cc := cX3_loadFar) (maxL := 3) (ret := (some .int)) (by decide) rfl ?_
  intro p e s m args below meth c s₁ B hml hv
  obtain ⟨rfl, hsz, hP, hK, hD0, hT⟩ := hv
  have hx := B.exec
  have hb := B.bytes
  have hr := B.returns
  have hts := atoms_spec (ws := wwX3_loadFar) B.pre
  have hws : ∀ w ∈ wsL_law, w.before _ s = true := fun w h => hts w (List.mem_cons_of_mem _ h)
  have hown : s.vm.findClass RX3 = some m.cls := findClass_of_methodNamed B.named
  have hlocks := B.notSynchronized
  subst hsz
  have hD := hD0.self (sz := s.heap.size)
  generalize hAe : va_A (kX3 cB cI gc me ba rg wa sm v_im v_ei v_ha v_hb v_cy v_by v_ct v_wd) s.heap.size = A at hD hT ⊢
  have hA : ∀ q : Nat, s.heap.size ≤ q → A q := fun q h => by rw [← hAe]; exact Or.inr h
  have hS : va_S A s.heap s.heap [] := va_S.rf
  have hl := lv_entry ([.ref gc, .int a1]) (n := 3) (Nat.le_of_ble_eq_true rfl)
  rw [lg_entry_eq]
  generalize (lg_sl ([.ref gc, .int a1]) ++ List.replicate (3 - (lg_sl ([.ref gc, .int a1])).length) Slot.unset).toArray = ls at hl ⊢
  have hl : lv_has ls 3 [(0, .ref gc), (1, .int a1)] := hl
  generalize hQ : MQ _ _ _ _ _ _ _ = Q
  obtain ⟨H, hHe⟩ : ∃ H : Heap, H = s.heap := ⟨_, rfl⟩
  obtain ⟨locs, hle⟩ : ∃ L : List Loc, L = [] := ⟨_, rfl⟩
  have hP : va_P D vwCl (kX3 cB cI gc me ba rg wa sm v_im v_ei v_ha v_hb v_cy v_by v_ct v_wd) H := by rw [hHe]; exact hP
  have hS : va_S A s.heap H locs := by rw [hHe, hle]; exact hS
  refine kw_start hHe.symm hle.symm ?_
  have hf : fX3_loadFar v_by v_ct v_wd a1 = fX3_loadFar v_by v_ct v_wd a1 := rfl
  refine lv_iload_n hx hb dX3_loadFar_0 rfl (lv_at hl 1 rfl) ?_
  refine lv_iconst (v := 1) hx hb dX3_loadFar_1 (by decide) ?_
  refine lv_iand hx hb dX3_loadFar_2 ?_
  obtain ⟨TJ9, hTJ9⟩ : ∃ T9 : Int32 × (Nat → Int32), T9 = (kIf (kEq (a1 &&& (1 : Int32)) (0 : Int32)) (kU1 (fX1_half v_wd (1 : Int32)) (fun (r6 : Int32) => (((65280 : Int32) + r6), v_wd))) (kU2 (fX3_fetchWord v_by v_wd) (fun (r4 : Int32) (b2 : Nat → Int32) => (r4, b2)))) := ⟨_, rfl⟩
  have J9 : ∀ (x7 : Int32) (b8 : Nat → Int32), (x7, b8) = TJ9 → ∀ (H : Heap) (locs : List Loc) (ls : Array Slot), lv_has ls 3 [(0, .ref gc), (1, .int a1)] → va_P D vwCl (kX3 cB cI gc me ba rg wa sm v_im v_ei v_ha v_hb v_cy v_by v_ct b8) H → va_D A (kX3 cB cI gc me ba rg wa sm v_im v_ei v_ha v_hb v_cy v_by v_ct b8) → va_S A s.heap H locs → W p l e (headSpec wwX3_loadFar rmX3_loadFar).room s m ([.ref gc, .int a1] : List Value).toArray below meth c H locs 0 0 Q (F0 m 24 ls [.int x7]) := by
    intro x7 b8 eJ9 H locs ls hl hP hD hS
    have hf := hf.trans (kE2 (eJ9.trans hTJ9))
    refine lv_istore_n (lv' := [(2, .int x7), (0, .ref gc), (1, .int a1)]) hx hb dX3_loadFar_24 rfl hl (by decide) rfl (fun ls hl => ?_)
    refine lv_iload_n hx hb dX3_loadFar_25 rfl (lv_at hl 2 rfl) ?_
    refine lv_bipush (v := 6) hx hb dX3_loadFar_26 (by decide) ?_
    obtain ⟨TJ23, hTJ23⟩ : ∃ T9 : (Nat → Int32) × Int32 × (Nat → Int32), T9 = (kIf (kLe (6 : Int32) a1) (kU1 (fX0_at v_by x7) (fun (r12 : Int32) => (kU1 (fX1_setA b8 r12) (fun (b13 : Nat → Int32) => (v_by, v_ct, b13))))) (kU1 (fX1_a b8) (fun (r16 : Int32) => (kU2 (fX0_write v_by v_ct x7 r16) (fun (b17 : Nat → Int32) (b18 : Int32) => (b17, b18, b8)))))) := ⟨_, rfl⟩
    have J23 : ∀ (b20 : Nat → Int32) (b21 : Int32) (b22 : Nat → Int32), (b20, b21, b22) = TJ23 → ∀ (H : Heap) (locs : List Loc) (ls : Array Slot), lv_has ls 3 [(2, .int x7), (0, .ref gc), (1, .int a1)] → va_P D vwCl (kX3 cB cI gc me ba rg wa sm v_im v_ei v_ha v_hb v_cy b20 b21 b22) H → va_D A (kX3 cB cI gc me ba rg wa sm v_im v_ei v_ha v_hb v_cy b20 b21 b22) → va_S A s.heap H locs → W p l e (headSpec wwX3_loadFar rmX3_loadFar).room s m ([.ref gc, .int a1] : List Value).toArray below meth c H locs 0 0 Q (F0 m 64 ls []) := by
      intro b20 b21 b22 eJ23 H locs ls hl hP hD hS
      have hf := hf.trans (kE3 (eJ23.trans hTJ23))
      refine lv_iconst (v := 0) hx hb dX3_loadFar_64 (by decide) ?_
      rw [← hQ]
      exact W.iret (v := (0 : Int32)) hx hb hr (fun t ht hW => ⟨⟨(0 : Int32), (b20, b21, b22), rfl, hf.symm, by rw [ht]; exact hP, va_K.moved hW.alike hK, hD⟩, hS.F ht⟩) hS.2.2 dX3_loadFar_65
    have hf := hTJ23
    refine lv_icmp_ge (tgt := 49) hx hb dX3_loadFar_28 (by decide) (fun c10 => ?_) (fun c10 => ?_)
    · have hf := hf.trans (kt_le c10)
      refine lv_aload_n hx hb dX3_loadFar_49 rfl (lv_at hl 1 rfl) ?_
      refine va_get (D := D) (ci := 3) (v := .ref rg) (C := RX3) (T := TX3) (N := 8) hx hb hws inlX3 hown hK hP 0 rfl rfl 1 (by decide) (hws _ mw_20) (fun _ h9 => h9) rfl dX3_loadFar_50 ?_
      refine lv_aload_n hx hb dX3_loadFar_53 rfl (lv_at hl 1 rfl) ?_
      refine va_get (D := D) (ci := 3) (v := .ref me) (C := RX3) (T := TX3) (N := 8) hx hb hws inlX3 hown hK hP 0 rfl rfl 0 (by decide) (hws _ mw_15) (fun _ h9 => h9) rfl dX3_loadFar_54 ?_
      refine lv_iload_n hx hb dX3_loadFar_57 rfl (lv_at hl 0 rfl) ?_
      refine kc_Vi (wr := [(gc, .inr (3, [.ref me, .ref rg, .ref sm, .int (bI v_im), .int (bI v_ei), .int (bI v_ha), .int (bI v_hb), .int v_cy])), (rg, .inr (1, [.ref wa])), (wa, .inl (cI, 6, .inl b8)), (sm, .inr (2, [.ref rg]))]) (As := [.int x7]) (rest := [.ref rg]) (fun _ => (kX3 cB cI gc me ba rg wa sm v_im v_ei v_ha v_hb v_cy v_by v_ct b8)) ⟨hx, hb, hml, hown, hws⟩ hK hP hD hS hA hT (c_X0_at l D cB me ba H.size v_by v_ct x7) (cwV 1 hws (gw_V mw_85 mw_86 mw_87 mw_14 mw_88) rfl rfl rfl hdX0_at ⟨Nat.le_of_ble_eq_true rfl, Nat.le_of_ble_eq_true rfl⟩) [1, 2] [0, 3, 4, 5] [0] [0, 4, 5, 1, 2, 3] rfl rfl rfl rfl (by decide) rfl (fun _ => rfl) rfl 1 rfl rfl rfl rfl hl.1 rfl (Nat.le_of_ble_eq_true rfl) dX3_loadFar_58 ⟨Nat.zero_le _, Nat.zero_le _⟩ (fun r12 _ H locs hw11 hP hD hS => ?_)
      have hP : va_P D vwCl (kX3 cB cI gc me ba rg wa sm v_im v_ei v_ha v_hb v_cy v_by v_ct b8) H := hP
      have hD : va_D A (kX3 cB cI gc me ba rg wa sm v_im v_ei v_ha v_hb v_cy v_by v_ct b8) := hD
      have hf := hf.trans (kE1 hw11)
      refine kc_Vv (wr := [(gc, .inr (3, [.ref me, .ref rg, .ref sm, .int (bI v_im), .int (bI v_ei), .int (bI v_ha), .int (bI v_hb), .int v_cy])), (me, .inr (0, [.ref ba, .int v_ct])), (ba, .inl (cB, 65536, .inl v_by)), (sm, .inr (2, [.ref rg]))]) (As := [.int r12]) (rest := []) (fun u9 => (kX3 cB cI gc me ba rg wa sm v_im v_ei v_ha v_hb v_cy v_by v_ct u9)) ⟨hx, hb, hml, hown, hws⟩ hK hP hD hS hA hT (c_X1_setA l D cI rg wa H.size b8 r12) (cwV 1 hws (gw_V mw_271 mw_272 mw_273 mw_32 mw_274) rfl rfl rfl hdX1_setA ⟨Nat.le_of_ble_eq_true rfl, Nat.le_of_ble_eq_true rfl⟩) [3, 4] [0, 1, 2, 5] [1] [0, 1, 2, 4, 5, 3] rfl rfl rfl rfl (by decide) rfl (fun _ => rfl) rfl 3 rfl rfl rfl rfl hl.1 rfl (Nat.le_of_ble_eq_true rfl) dX3_loadFar_61 ⟨Nat.zero_le _, Nat.zero_le _⟩ (fun b13 H locs hw14 hP hD hS => ?_)
      have hP : va_P D vwCl (kX3 cB cI gc me ba rg wa sm v_im v_ei v_ha v_hb v_cy v_by v_ct b13) H := hP
      have hD : va_D A (kX3 cB cI gc me ba rg wa sm v_im v_ei v_ha v_hb v_cy v_by v_ct b13) := hD
      have hf := hf.trans (kE1 hw14)
      exact J23 v_by v_ct b13 hf.symm H locs ls (lv_sub hl [0, 1, 2] rfl) hP hD hS
    · have hf := hf.trans (kf_le c10)
      refine lv_aload_n hx hb dX3_loadFar_31 rfl (lv_at hl 1 rfl) ?_
      refine va_get (D := D) (ci := 3) (v := .ref me) (C := RX3) (T := TX3) (N := 8) hx hb hws inlX3 hown hK hP 0 rfl rfl 0 (by decide) (hws _ mw_15) (fun _ h9 => h9) rfl dX3_loadFar_32 ?_
      refine lv_iload_n hx hb dX3_loadFar_35 rfl (lv_at hl 0 rfl) ?_
      refine lv_aload_n hx hb dX3_loadFar_36 rfl (lv_at hl 1 rfl) ?_
      refine va_get (D := D) (ci := 3) (v := .ref rg) (C := RX3) (T := TX3) (N := 8) hx hb hws inlX3 hown hK hP 0 rfl rfl 1 (by decide) (hws _ mw_20) (fun _ h9 => h9) rfl dX3_loadFar_37 ?_
      refine kc_Vi (wr := [(gc, .inr (3, [.ref me, .ref rg, .ref sm, .int (bI v_im), .int (bI v_ei), .int (bI v_ha), .int (bI v_hb), .int v_cy])), (me, .inr (0, [.ref ba, .int v_ct])), (ba, .inl (cB, 65536, .inl v_by)), (sm, .inr (2, [.ref rg]))]) (As := []) (rest := [.int x7, .ref me]) (fun _ => (kX3 cB cI gc me ba rg wa sm v_im v_ei v_ha v_hb v_cy v_by v_ct b8)) ⟨hx, hb, hml, hown, hws⟩ hK hP hD hS hA hT (c_X1_a l D cI rg wa H.size b8 ) (cwV 0 hws (gw_V mw_267 mw_268 mw_269 mw_32 mw_270) rfl rfl rfl hdX1_a ⟨Nat.le_of_ble_eq_true rfl, Nat.le_of_ble_eq_true rfl⟩) [3, 4] [0, 1, 2, 5] [1] [0, 1, 2, 4, 5, 3] rfl rfl rfl rfl (by decide) rfl (fun _ => rfl) rfl 3 rfl rfl rfl rfl hl.1 rfl (Nat.le_of_ble_eq_true rfl) dX3_loadFar_40 ⟨Nat.zero_le _, Nat.zero_le _⟩ (fun r16 _ H locs hw15 hP hD hS => ?_)
      have hP : va_P D vwCl (kX3 cB cI gc me ba rg wa sm v_im v_ei v_ha v_hb v_cy v_by v_ct b8) H := hP
      have hD : va_D A (kX3 cB cI gc me ba rg wa sm v_im v_ei v_ha v_hb v_cy v_by v_ct b8) := hD
      have hf := hf.trans (kE1 hw15)
      refine kc_Vv (wr := [(gc, .inr (3, [.ref me, .ref rg, .ref sm, .int (bI v_im), .int (bI v_ei), .int (bI v_ha), .int (bI v_hb), .int v_cy])), (rg, .inr (1, [.ref wa])), (wa, .inl (cI, 6, .inl b8)), (sm, .inr (2, [.ref rg]))]) (As := [.int x7, .int r16]) (rest := []) (fun u9 => (kX3 cB cI gc me ba rg wa sm v_im v_ei v_ha v_hb v_cy (u9.1) (u9.2) b8)) ⟨hx, hb, hml, hown, hws⟩ hK hP hD hS hA hT (c_X0_write l D cB me ba H.size v_by v_ct x7 r16) (cwV 2 hws (gw_V mw_131 mw_132 mw_133 mw_14 mw_134) rfl rfl rfl hdX0_write ⟨Nat.le_of_ble_eq_true rfl, Nat.le_of_ble_eq_true rfl⟩) [1, 2] [0, 3, 4, 5] [0] [0, 4, 5, 1, 2, 3] rfl rfl rfl rfl (by decide) rfl (fun _ => rfl) rfl 1 rfl rfl rfl rfl hl.1 rfl (Nat.le_of_ble_eq_true rfl) dX3_loadFar_43 ⟨Nat.zero_le _, Nat.zero_le _⟩ (fun u9 H locs hw19 hP hD hS => ?_)
      obtain ⟨b17, b18⟩ := u9
      have hP : va_P D vwCl (kX3 cB cI gc me ba rg wa sm v_im v_ei v_ha v_hb v_cy b17 b18 b8) H := hP
      have hD : va_D A (kX3 cB cI gc me ba rg wa sm v_im v_ei v_ha v_hb v_cy b17 b18 b8) := hD
      have hf := hf.trans (kE2 hw19)
      refine lv_goto (tgt := 64) hx hb dX3_loadFar_46 (by decide) ?_
      exact J23 b17 b18 b8 hf.symm H locs ls (lv_sub hl [0, 1, 2] rfl) hP hD hS
  have hf := hTJ9
  refine lv_if_ne (tgt := 20) hx hb dX3_loadFar_3 (by decide) (fun c1 => ?_) (fun c1 => ?_)
  · have hf := hf.trans (kf_eq c1)
    refine lv_aload_n hx hb dX3_loadFar_20 rfl (lv_at hl 0 rfl) ?_
    refine kc_Vi (wr := []) (As := []) (rest := []) (fun u9 => (kX3 cB cI gc me ba rg wa sm v_im v_ei v_ha v_hb v_cy v_by v_ct u9)) ⟨hx, hb, hml, hown, hws⟩ hK hP hD hS hA hT (c_X3_fetchWord l D cB cI gc me ba rg wa sm H.size v_im v_ei v_ha v_hb v_cy v_by v_ct v_wd ) (cwV 0 hws (gw_V mw_235 mw_236 mw_237 mw_2 mw_238) rfl rfl rfl hdX3_fetchWord ⟨Nat.le_of_ble_eq_true rfl, Nat.le_of_ble_eq_true rfl⟩) [0, 1, 2, 3, 4, 5] [] [0, 1] [0, 1, 2, 3, 4, 5] rfl rfl rfl rfl (by decide) rfl (fun _ => rfl) rfl 0 rfl rfl rfl rfl hl.1 rfl (Nat.le_of_ble_eq_true rfl) dX3_loadFar_21 ⟨Nat.zero_le _, Nat.zero_le _⟩ (fun r4 b2 H locs hw3 hP hD hS => ?_)
    have hP : va_P D vwCl (kX3 cB cI gc me ba rg wa sm v_im v_ei v_ha v_hb v_cy v_by v_ct b2) H := hP
    have hD : va_D A (kX3 cB cI gc me ba rg wa sm v_im v_ei v_ha v_hb v_cy v_by v_ct b2) := hD
    have hf := hf.trans (kE2 hw3)
    exact J9 r4 b2 hf.symm H locs ls (lv_sub hl [0, 1] rfl) hP hD hS
  · have hf := hf.trans (kt_eq c1)
    refine lv_ldc (v := 65280) hx hb hown (hws _ mw_330) dX3_loadFar_6 ?_
    refine lv_aload_n hx hb dX3_loadFar_8 rfl (lv_at hl 0 rfl) ?_
    refine va_get (D := D) (ci := 3) (v := .ref rg) (C := RX3) (T := TX3) (N := 8) hx hb hws inlX3 hown hK hP 0 rfl rfl 1 (by decide) (hws _ mw_20) (fun _ h9 => h9) rfl dX3_loadFar_9 ?_
    refine lv_iconst (v := 1) hx hb dX3_loadFar_12 (by decide) ?_
    refine kc_Vi (wr := [(gc, .inr (3, [.ref me, .ref rg, .ref sm, .int (bI v_im), .int (bI v_ei), .int (bI v_ha), .int (bI v_hb), .int v_cy])), (me, .inr (0, [.ref ba, .int v_ct])), (ba, .inl (cB, 65536, .inl v_by)), (sm, .inr (2, [.ref rg]))]) (As := [.int (1 : Int32)]) (rest := [.int (65280 : Int32)]) (fun _ => (kX3 cB cI gc me ba rg wa sm v_im v_ei v_ha v_hb v_cy v_by v_ct v_wd)) ⟨hx, hb, hml, hown, hws⟩ hK hP hD hS hA hT (c_X1_half l D cI rg wa H.size v_wd (1 : Int32)) (cwV 1 hws (gw_V mw_189 mw_190 mw_191 mw_32 mw_192) rfl rfl rfl hdX1_half ⟨Nat.le_of_ble_eq_true rfl, Nat.le_of_ble_eq_true rfl⟩) [3, 4] [0, 1, 2, 5] [1] [0, 1, 2, 4, 5, 3] rfl rfl rfl rfl (by decide) rfl (fun _ => rfl) rfl 3 rfl rfl rfl rfl hl.1 rfl (Nat.le_of_ble_eq_true rfl) dX3_loadFar_13 ⟨Nat.zero_le _, Nat.zero_le _⟩ (fun r6 _ H locs hw5 hP hD hS => ?_)
    have hP : va_P D vwCl (kX3 cB cI gc me ba rg wa sm v_im v_ei v_ha v_hb v_cy v_by v_ct v_wd) H := hP
    have hD : va_D A (kX3 cB cI gc me ba rg wa sm v_im v_ei v_ha v_hb v_cy v_by v_ct v_wd) := hD
    have hf := hf.trans (kE1 hw5)
    refine lv_iadd hx hb dX3_loadFar_16 ?_
    refine lv_goto (tgt := 24) hx hb dX3_loadFar_17 (by decide) ?_
    exact J9 ((65280 : Int32) + r6) v_wd hf.symm H locs ls (lv_sub hl [0, 1] rfl) hP hD hS
def fX3_switchInterrupts (v_im : Bool) (v_ei : Bool) (a1 : Bool) : Int32 × Bool × Bool := (kU2 (((kIf (kEq (bI a1) (0 : Int32)) (false, false) (kIf (kEq (bI v_im) (0 : Int32)) (v_im, true) (v_im, v_ei))) : Bool × Bool)) (fun (b3 : Bool) (b4 : Bool) => ((0 : Int32), b3, b4)))
def rmX3_switchInterrupts : Room := { frames := 0, cells := 0, slots := 0, locals := 0 }
def wwX3_switchInterrupts : List Cond := Cond.code yX3_switchInterrupts cX3_switchInterrupts 2 (some .int) :: wsL_law
theorem hdX3_switchInterrupts : yX3_switchInterrupts.cls = RX3 ∧ yX3_switchInterrupts.cls ≠ "java/lang/invoke/MethodHandle" ∧ yX3_switchInterrupts.cls ≠ "java/lang/invoke/VarHandle" ∧ (parseMethodDescriptor yX3_switchInterrupts.desc).map (fun d => d.parameters.length) = some 1 := by decide +kernel
set_option maxHeartbeats 4000000 in
set_option maxRecDepth 100000 in
theorem c_X3_switchInterrupts (l : Launch) (D : va_G) (cB : ClassId) (cI : ClassId) (gc me ba rg wa sm sz : Nat) (v_im : Bool) (v_ei : Bool) (v_ha : Bool) (v_hb : Bool) (v_cy : Int32) (v_by : Nat → Int32) (v_ct : Int32) (v_wd : Nat → Int32) (a1 : Bool)  : Met l yX3_switchInterrupts wwX3_switchInterrupts rmX3_switchInterrupts (va_Pc [.ref gc, .int (bI a1)] (kp D (kX3 cB cI gc me ba rg wa sm v_im v_ei v_ha v_hb v_cy v_by v_ct v_wd) [(cB, .byte), (cI, .int)] sz)) (va_Qi (fun (r : Int32) (u9 : Bool × Bool) => (r, u9) = fX3_switchInterrupts v_im v_ei a1) (fun u9 t => kq D (kX3 cB cI gc me ba rg wa sm (u9.1) (u9.2) v_ha v_hb v_cy v_by v_ct v_wd) [(cB, .byte), (cI, .int)] (va_A (kX3 cB cI gc me ba rg wa sm v_im v_ei v_ha v_hb v_cy v_by v_ct v_wd) sz) t) (va_A (kX3 cB cI gc me ba rg wa sm v_im v_ei v_ha v_hb v_cy v_by v_ct v_wd) sz)) 0 0 (va_A (kX3 cB cI gc me ba rg wa sm v_im v_ei v_ha v_hb v_cy v_by v_ct v_wd) sz) := by
  refine Met.ofW (cc := cX3_switchInterrupts) (maxL := 2) (ret := (some .int)) (by decide) rfl ?_
  intro p e s m args below meth c s₁ B hml hv
  obtain ⟨rfl, hsz, hP, hK, hD0, hT⟩ := hv
  have hx := B.exec
  have hb := B.bytes
  have hr := B.returns
  have hts := atoms_spec (ws := wwX3_switchInterrupts) B.pre
  have hws : ∀ w ∈ wsL_law, w.before _ s = true := fun w h => hts w (List.mem_cons_of_mem _ h)
  have hown : s.vm.findClass RX3 = some m.cls := findClass_of_methodNamed B.named
  have hlocks := B.notSynchronized
  subst hsz
  have hD := hD0.self (sz := s.heap.size)
  generalize hAe : va_A (kX3 cB cI gc me ba rg wa sm v_im v_ei v_ha v_hb v_cy v_by v_ct v_wd) s.heap.size = A at hD hT ⊢
  have hA : ∀ q : Nat, s.heap.size ≤ q → A q := fun q h => by rw [← hAe]; exact Or.inr h
  have hS : va_S A s.heap s.heap [] := va_S.rf
  have hl := lv_entry ([.ref gc, .int (bI a1)]) (n := 2) (Nat.le_of_ble_eq_true rfl)
  rw [lg_entry_eq]
  generalize (lg_sl ([.ref gc, .int (bI a1)]) ++ List.replicate (2 - (lg_sl ([.ref gc, .int (bI a1)])).length) Slot.unset).toArray = ls at hl ⊢
  have hl : lv_has ls 2 [(0, .ref gc), (1, .int (bI a1))] := hl
  generalize hQ : MQ _ _ _ _ _ _ _ = Q
  obtain ⟨H, hHe⟩ : ∃ H : Heap, H = s.heap := ⟨_, rfl⟩
  obtain ⟨locs, hle⟩ : ∃ L : List Loc, L = [] := ⟨_, rfl⟩
  have hP : va_P D vwCl (kX3 cB cI gc me ba rg wa sm v_im v_ei v_ha v_hb v_cy v_by v_ct v_wd) H := by rw [hHe]; exact hP
  have hS : va_S A s.heap H locs := by rw [hHe, hle]; exact hS
  refine kw_start hHe.symm hle.symm ?_
  have hf : fX3_switchInterrupts v_im v_ei a1 = fX3_switchInterrupts v_im v_ei a1 := rfl
  refine lv_iload_n hx hb dX3_switchInterrupts_0 rfl (lv_at hl 1 rfl) ?_
  obtain ⟨TJ5, hTJ5⟩ : ∃ T9 : Bool × Bool, T9 = (kIf (kEq (bI a1) (0 : Int32)) (false, false) (kIf (kEq (bI v_im) (0 : Int32)) (v_im, true) (v_im, v_ei))) := ⟨_, rfl⟩
  have J5 : ∀ (b3 : Bool) (b4 : Bool), (b3, b4) = TJ5 → ∀ (H : Heap) (locs : List Loc) (ls : Array Slot), lv_has ls 2 [(0, .ref gc), (1, .int (bI a1))] → va_P D vwCl (kX3 cB cI gc me ba rg wa sm b3 b4 v_ha v_hb v_cy v_by v_ct v_wd) H → va_D A (kX3 cB cI gc me ba rg wa sm b3 b4 v_ha v_hb v_cy v_by v_ct v_wd) → va_S A s.heap H locs → W p l e (headSpec wwX3_switchInterrupts rmX3_switchInterrupts).room s m ([.ref gc, .int (bI a1)] : List Value).toArray below meth c H locs 0 0 Q (F0 m 29 ls []) := by
    intro b3 b4 eJ5 H locs ls hl hP hD hS
    have hf := hf.trans (kE2 (eJ5.trans hTJ5))
    refine lv_iconst (v := 0) hx hb dX3_switchInterrupts_29 (by decide) ?_
    rw [← hQ]
    exact W.iret (v := (0 : Int32)) hx hb hr (fun t ht hW => ⟨⟨(0 : Int32), (b3, b4), rfl, hf.symm, by rw [ht]; exact hP, va_K.moved hW.alike hK, hD⟩, hS.F ht⟩) hS.2.2 dX3_switchInterrupts_30
  have hf := hTJ5
  refine lv_if_ne (tgt := 17) hx hb dX3_switchInterrupts_1 (by decide) (fun c1 => ?_) (fun c1 => ?_)
  · have hf := hf.trans (kf_eq c1)
    refine lv_aload_n hx hb dX3_switchInterrupts_17 rfl (lv_at hl 0 rfl) ?_
    refine va_get (D := D) (ci := 3) (v := .int (bI v_im)) (C := RX3) (T := TX3) (N := 8) hx hb hws inlX3 hown hK hP 0 rfl rfl 3 (by decide) (hws _ mw_105) (fun _ h9 => h9) rfl dX3_switchInterrupts_18 ?_
    refine lv_if_ne (tgt := 29) hx hb dX3_switchInterrupts_21 (by decide) (fun c2 => ?_) (fun c2 => ?_)
    · have hf := hf.trans (kf_eq c2)
      exact J5 v_im v_ei hf.symm H locs ls (lv_sub hl [0, 1] rfl) hP hD hS
    · have hf := hf.trans (kt_eq c2)
      refine lv_aload_n hx hb dX3_switchInterrupts_24 rfl (lv_at hl 0 rfl) ?_
      refine lv_iconst (v := 1) hx hb dX3_switchInterrupts_25 (by decide) ?_
      refine va_put (D := D) (ci := 3) (v := .int (bI true)) (ty := .boolean) (C := RX3) (T := TX3) (N := 8) hx hb hws inlX3 tyX3 tyX3_ok nmX3 hown hK hP hD hS 0 rfl rfl 4 (by decide) (hws _ mw_108) (fun _ h9 => h9) rfl (tyX3_ok 4 (by decide)) (bI_nar _) (bI_fit _) (Nat.le_of_ble_eq_true rfl) dX3_switchInterrupts_26 (fun H locs hP hD hS => ?_)
      have hP : va_P D vwCl (kX3 cB cI gc me ba rg wa sm v_im true v_ha v_hb v_cy v_by v_ct v_wd) H := hP
      have hD : va_D A (kX3 cB cI gc me ba rg wa sm v_im true v_ha v_hb v_cy v_by v_ct v_wd) := hD
      exact J5 v_im true hf.symm H locs ls (lv_sub hl [0, 1] rfl) hP hD hS
  · have hf := hf.trans (kt_eq c1)
    refine lv_aload_n hx hb dX3_switchInterrupts_4 rfl (lv_at hl 0 rfl) ?_
    refine lv_iconst (v := 0) hx hb dX3_switchInterrupts_5 (by decide) ?_
    refine va_put (D := D) (ci := 3) (v := .int (bI false)) (ty := .boolean) (C := RX3) (T := TX3) (N := 8) hx hb hws inlX3 tyX3 tyX3_ok nmX3 hown hK hP hD hS 0 rfl rfl 3 (by decide) (hws _ mw_105) (fun _ h9 => h9) rfl (tyX3_ok 3 (by decide)) (bI_nar _) (bI_fit _) (Nat.le_of_ble_eq_true rfl) dX3_switchInterrupts_6 (fun H locs hP hD hS => ?_)
    have hP : va_P D vwCl (kX3 cB cI gc me ba rg wa sm false v_ei v_ha v_hb v_cy v_by v_ct v_wd) H := hP
    have hD : va_D A (kX3 cB cI gc me ba rg wa sm false v_ei v_ha v_hb v_cy v_by v_ct v_wd) := hD
    refine lv_aload_n hx hb dX3_switchInterrupts_9 rfl (lv_at hl 0 rfl) ?_
    refine lv_iconst (v := 0) hx hb dX3_switchInterrupts_10 (by decide) ?_
    refine va_put (D := D) (ci := 3) (v := .int (bI false)) (ty := .boolean) (C := RX3) (T := TX3) (N := 8) hx hb hws inlX3 tyX3 tyX3_ok nmX3 hown hK hP hD hS 0 rfl rfl 4 (by decide) (hws _ mw_108) (fun _ h9 => h9) rfl (tyX3_ok 4 (by decide)) (bI_nar _) (bI_fit _) (Nat.le_of_ble_eq_true rfl) dX3_switchInterrupts_11 (fun H locs hP hD hS => ?_)
    have hP : va_P D vwCl (kX3 cB cI gc me ba rg wa sm false false v_ha v_hb v_cy v_by v_ct v_wd) H := hP
    have hD : va_D A (kX3 cB cI gc me ba rg wa sm false false v_ha v_hb v_cy v_by v_ct v_wd) := hD
    refine lv_goto (tgt := 29) hx hb dX3_switchInterrupts_14 (by decide) ?_
    exact J5 false false hf.symm H locs ls (lv_sub hl [0, 1] rfl) hP hD hS
def fX3_callIf (v_by : Nat → Int32) (v_ct : Int32) (v_wd : Nat → Int32) (a1 : Bool) : Int32 × (Nat → Int32) × Int32 × (Nat → Int32) := (kU2 (fX3_fetchWord v_by v_wd) (fun (r3 : Int32) (b1 : Nat → Int32) => (kIf (kEq (bI a1) (0 : Int32)) ((0 : Int32), v_by, v_ct, b1) (kU1 (fX1_word b1 (5 : Int32)) (fun (r6 : Int32) => (kU3 (fX3_push v_by v_ct b1 r6) (fun (b7 : Nat → Int32) (b8 : Int32) (b9 : Nat → Int32) => (kU2 (fX1_setWord b9 (5 : Int32) r3) (fun (z14 : Bool) (b11 : Nat → Int32) => ((3 : Int32), b7, b8, b11))))))))))
def rmX3_callIf : Room := { frames := 2, cells := 0, slots := 0, locals := 44 }
def wwX3_callIf : List Cond := Cond.code yX3_callIf cX3_callIf 3 (some .int) :: wsL_law
theorem hdX3_callIf : yX3_callIf.cls = RX3 ∧ yX3_callIf.cls ≠ "java/lang/invoke/MethodHandle" ∧ yX3_callIf.cls ≠ "java/lang/invoke/VarHandle" ∧ (parseMethodDescriptor yX3_callIf.desc).map (fun d => d.parameters.length) = some 1 := by decide +kernel
set_option maxHeartbeats 4000000 in
set_option maxRecDepth 100000 in
theorem c_X3_callIf (l : Launch) (D : va_G) (cB : ClassId) (cI : ClassId) (gc me ba rg wa sm sz : Nat) (v_im : Bool) (v_ei : Bool) (v_ha : Bool) (v_hb : Bool) (v_cy : Int32) (v_by : Nat → Int32) (v_ct : Int32) (v_wd : Nat → Int32) (a1 : Bool)  : Met l yX3_callIf wwX3_callIf rmX3_callIf (va_Pc [.ref gc, .int (bI a1)] (kp D (kX3 cB cI gc me ba rg wa sm v_im v_ei v_ha v_hb v_cy v_by v_ct v_wd) [(cB, .byte), (cI, .int)] sz)) (va_Qi (fun (r : Int32) (u9 : (Nat → Int32) × Int32 × (Nat → Int32)) => (r, u9) = fX3_callIf v_by v_ct v_wd a1) (fun u9 t => kq D (kX3 cB cI gc me ba rg wa sm v_im v_ei v_ha v_hb v_cy (u9.1) (u9.2.1) (u9.2.2)) [(cB, .byte), (cI, .int)] (va_A (kX3 cB cI gc me ba rg wa sm v_im v_ei v_ha v_hb v_cy v_by v_ct v_wd) sz) t) (va_A (kX3 cB cI gc me ba rg wa sm v_im v_ei v_ha v_hb v_cy v_by v_ct v_wd) sz)) 0 0 (va_A (kX3 cB cI gc me ba rg wa sm v_im v_ei v_ha v_hb v_cy v_by v_ct v_wd) sz) := by
  refine Met.ofW (cc := cX3_callIf) (maxL := 3) (ret := (some .int)) (by decide) rfl ?_
  intro p e s m args below meth c s₁ B hml hv
  obtain ⟨rfl, hsz, hP, hK, hD0, hT⟩ := hv
  have hx := B.exec
  have hb := B.bytes
  have hr := B.returns
  have hts := atoms_spec (ws := wwX3_callIf) B.pre
  have hws : ∀ w ∈ wsL_law, w.before _ s = true := fun w h => hts w (List.mem_cons_of_mem _ h)
  have hown : s.vm.findClass RX3 = some m.cls := findClass_of_methodNamed B.named
  have hlocks := B.notSynchronized
  subst hsz
  have hD := hD0.self (sz := s.heap.size)
  generalize hAe : va_A (kX3 cB cI gc me ba rg wa sm v_im v_ei v_ha v_hb v_cy v_by v_ct v_wd) s.heap.size = A at hD hT ⊢
  have hA : ∀ q : Nat, s.heap.size ≤ q → A q := fun q h => by rw [← hAe]; exact Or.inr h
  have hS : va_S A s.heap s.heap [] := va_S.rf
  have hl := lv_entry ([.ref gc, .int (bI a1)]) (n := 3) (Nat.le_of_ble_eq_true rfl)
  rw [lg_entry_eq]
  generalize (lg_sl ([.ref gc, .int (bI a1)]) ++ List.replicate (3 - (lg_sl ([.ref gc, .int (bI a1)])).length) Slot.unset).toArray = ls at hl ⊢
  have hl : lv_has ls 3 [(0, .ref gc), (1, .int (bI a1))] := hl
  generalize hQ : MQ _ _ _ _ _ _ _ = Q
  obtain ⟨H, hHe⟩ : ∃ H : Heap, H = s.heap := ⟨_, rfl⟩
  obtain ⟨locs, hle⟩ : ∃ L : List Loc, L = [] := ⟨_, rfl⟩
  have hP : va_P D vwCl (kX3 cB cI gc me ba rg wa sm v_im v_ei v_ha v_hb v_cy v_by v_ct v_wd) H := by rw [hHe]; exact hP
  have hS : va_S A s.heap H locs := by rw [hHe, hle]; exact hS
  refine kw_start hHe.symm hle.symm ?_
  have hf : fX3_callIf v_by v_ct v_wd a1 = fX3_callIf v_by v_ct v_wd a1 := rfl
  refine lv_aload_n hx hb dX3_callIf_0 rfl (lv_at hl 0 rfl) ?_
  refine kc_Vi (wr := []) (As := []) (rest := []) (fun u9 => (kX3 cB cI gc me ba rg wa sm v_im v_ei v_ha v_hb v_cy v_by v_ct u9)) ⟨hx, hb, hml, hown, hws⟩ hK hP hD hS hA hT (c_X3_fetchWord l D cB cI gc me ba rg wa sm H.size v_im v_ei v_ha v_hb v_cy v_by v_ct v_wd ) (cwV 0 hws (gw_V mw_235 mw_236 mw_237 mw_2 mw_238) rfl rfl rfl hdX3_fetchWord ⟨Nat.le_of_ble_eq_true rfl, Nat.le_of_ble_eq_true rfl⟩) [0, 1, 2, 3, 4, 5] [] [0, 1] [0, 1, 2, 3, 4, 5] rfl rfl rfl rfl (by decide) rfl (fun _ => rfl) rfl 0 rfl rfl rfl rfl hl.1 rfl (Nat.le_of_ble_eq_true rfl) dX3_callIf_1 ⟨Nat.zero_le _, Nat.zero_le _⟩ (fun r3 b1 H locs hw2 hP hD hS => ?_)
  have hP : va_P D vwCl (kX3 cB cI gc me ba rg wa sm v_im v_ei v_ha v_hb v_cy v_by v_ct b1) H := hP
  have hD : va_D A (kX3 cB cI gc me ba rg wa sm v_im v_ei v_ha v_hb v_cy v_by v_ct b1) := hD
  have hf := hf.trans (kE2 hw2)
  refine lv_istore_n (lv' := [(2, .int r3), (0, .ref gc), (1, .int (bI a1))]) hx hb dX3_callIf_4 rfl hl (by decide) rfl (fun ls hl => ?_)
  refine lv_iload_n hx hb dX3_callIf_5 rfl (lv_at hl 2 rfl) ?_
  refine lv_if_ne (tgt := 11) hx hb dX3_callIf_6 (by decide) (fun c4 => ?_) (fun c4 => ?_)
  · have hf := hf.trans (kf_eq c4)
    refine lv_aload_n hx hb dX3_callIf_11 rfl (lv_at hl 1 rfl) ?_
    refine lv_aload_n hx hb dX3_callIf_12 rfl (lv_at hl 1 rfl) ?_
    refine va_get (D := D) (ci := 3) (v := .ref rg) (C := RX3) (T := TX3) (N := 8) hx hb hws inlX3 hown hK hP 0 rfl rfl 1 (by decide) (hws _ mw_20) (fun _ h9 => h9) rfl dX3_callIf_13 ?_
    refine lv_iconst (v := 5) hx hb dX3_callIf_16 (by decide) ?_
    refine kc_Vi (wr := [(gc, .inr (3, [.ref me, .ref rg, .ref sm, .int (bI v_im), .int (bI v_ei), .int (bI v_ha), .int (bI v_hb), .int v_cy])), (me, .inr (0, [.ref ba, .int v_ct])), (ba, .inl (cB, 65536, .inl v_by)), (sm, .inr (2, [.ref rg]))]) (As := [.int (5 : Int32)]) (rest := [.ref gc]) (fun _ => (kX3 cB cI gc me ba rg wa sm v_im v_ei v_ha v_hb v_cy v_by v_ct b1)) ⟨hx, hb, hml, hown, hws⟩ hK hP hD hS hA hT (c_X1_word l D cI rg wa H.size b1 (5 : Int32)) (cwV 1 hws (gw_V mw_123 mw_124 mw_125 mw_32 mw_126) rfl rfl rfl hdX1_word ⟨Nat.le_of_ble_eq_true rfl, Nat.le_of_ble_eq_true rfl⟩) [3, 4] [0, 1, 2, 5] [1] [0, 1, 2, 4, 5, 3] rfl rfl rfl rfl (by decide) rfl (fun _ => rfl) rfl 3 rfl rfl rfl rfl hl.1 rfl (Nat.le_of_ble_eq_true rfl) dX3_callIf_17 ⟨Nat.zero_le _, Nat.zero_le _⟩ (fun r6 _ H locs hw5 hP hD hS => ?_)
    have hP : va_P D vwCl (kX3 cB cI gc me ba rg wa sm v_im v_ei v_ha v_hb v_cy v_by v_ct b1) H := hP
    have hD : va_D A (kX3 cB cI gc me ba rg wa sm v_im v_ei v_ha v_hb v_cy v_by v_ct b1) := hD
    have hf := hf.trans (kE1 hw5)
    refine kc_Vv (wr := []) (As := [.int r6]) (rest := []) (fun u9 => (kX3 cB cI gc me ba rg wa sm v_im v_ei v_ha v_hb v_cy (u9.1) (u9.2.1) (u9.2.2))) ⟨hx, hb, hml, hown, hws⟩ hK hP hD hS hA hT (c_X3_push l D cB cI gc me ba rg wa sm H.size v_im v_ei v_ha v_hb v_cy v_by v_ct b1 r6) (cwV 1 hws (gw_V mw_127 mw_128 mw_129 mw_2 mw_130) rfl rfl rfl hdX3_push ⟨Nat.le_of_ble_eq_true rfl, Nat.le_of_ble_eq_true rfl⟩) [0, 1, 2, 3, 4, 5] [] [0, 1] [0, 1, 2, 3, 4, 5] rfl rfl rfl rfl (by decide) rfl (fun _ => rfl) rfl 0 rfl rfl rfl rfl hl.1 rfl (Nat.le_of_ble_eq_true rfl) dX3_callIf_20 ⟨Nat.zero_le _, Nat.zero_le _⟩ (fun u9 H locs hw10 hP hD hS => ?_)
    obtain ⟨b7, b8, b9⟩ := u9
    have hP : va_P D vwCl (kX3 cB cI gc me ba rg wa sm v_im v_ei v_ha v_hb v_cy b7 b8 b9) H := hP
    have hD : va_D A (kX3 cB cI gc me ba rg wa sm v_im v_ei v_ha v_hb v_cy b7 b8 b9) := hD
    have hf := hf.trans (kE3 hw10)
    refine lv_aload_n hx hb dX3_callIf_23 rfl (lv_at hl 1 rfl) ?_
    refine va_get (D := D) (ci := 3) (v := .ref rg) (C := RX3) (T := TX3) (N := 8) hx hb hws inlX3 hown hK hP 0 rfl rfl 1 (by decide) (hws _ mw_20) (fun _ h9 => h9) rfl dX3_callIf_24 ?_
    refine lv_iconst (v := 5) hx hb dX3_callIf_27 (by decide) ?_
    refine lv_iload_n hx hb dX3_callIf_28 rfl (lv_at hl 0 rfl) ?_
    refine kc_Vi (wr := [(gc, .inr (3, [.ref me, .ref rg, .ref sm, .int (bI v_im), .int (bI v_ei), .int (bI v_ha), .int (bI v_hb), .int v_cy])), (me, .inr (0, [.ref ba, .int b8])), (ba, .inl (cB, 65536, .inl b7)), (sm, .inr (2, [.ref rg]))]) (As := [.int (5 : Int32), .int r3]) (rest := []) (fun u9 => (kX3 cB cI gc me ba rg wa sm v_im v_ei v_ha v_hb v_cy b7 b8 u9)) ⟨hx, hb, hml, hown, hws⟩ hK hP hD hS hA hT (c_X1_setWord l D cI rg wa H.size b9 (5 : Int32) r3) (cwV 2 hws (gw_V mw_137 mw_138 mw_139 mw_32 mw_140) rfl rfl rfl hdX1_setWord ⟨Nat.le_of_ble_eq_true rfl, Nat.le_of_ble_eq_true rfl⟩) [3, 4] [0, 1, 2, 5] [1] [0, 1, 2, 4, 5, 3] rfl rfl rfl rfl (by decide) rfl (fun _ => rfl) rfl 3 rfl rfl rfl rfl hl.1 rfl (Nat.le_of_ble_eq_true rfl) dX3_callIf_29 ⟨Nat.zero_le _, Nat.zero_le _⟩ (fun r13 b11 H locs hw12 hP hD hS => ?_)
    obtain ⟨z14, rfl, hw12⟩ := hw12
    have hP : va_P D vwCl (kX3 cB cI gc me ba rg wa sm v_im v_ei v_ha v_hb v_cy b7 b8 b11) H := hP
    have hD : va_D A (kX3 cB cI gc me ba rg wa sm v_im v_ei v_ha v_hb v_cy b7 b8 b11) := hD
    have hf := hf.trans (kE2 hw12)
    refine lv_pop hx hb dX3_callIf_32 rfl ?_
    refine lv_iconst (v := 3) hx hb dX3_callIf_33 (by decide) ?_
    rw [← hQ]
    exact W.iret (v := (3 : Int32)) hx hb hr (fun t ht hW => ⟨⟨(3 : Int32), (b7, b8, b11), rfl, hf.symm, by rw [ht]; exact hP, va_K.moved hW.alike hK, hD⟩, hS.F ht⟩) hS.2.2 dX3_callIf_34
  · have hf := hf.trans (kt_eq c4)
    refine lv_iconst (v := 0) hx hb dX3_callIf_9 (by decide) ?_
    rw [← hQ]
    exact W.iret (v := (0 : Int32)) hx hb hr (fun t ht hW => ⟨⟨(0 : Int32), (v_by, v_ct, b1), rfl, hf.symm, by rw [ht]; exact hP, va_K.moved hW.alike hK, hD⟩, hS.F ht⟩) hS.2.2 dX3_callIf_10
def fX3_pushPair (v_by : Nat → Int32) (v_ct : Int32) (v_wd : Nat → Int32) (a1 : Int32) : Int32 × (Nat → Int32) × Int32 × (Nat → Int32) := (kU1 (fX3_stackPair a1) (fun (r1 : Int32) => (kU1 (fX1_word v_wd r1) (fun (r3 : Int32) => (kU3 (fX3_push v_by v_ct v_wd r3) (fun (b4 : Nat → Int32) (b5 : Int32) (b6 : Nat → Int32) => ((0 : Int32), b4, b5, b6)))))))
def rmX3_pushPair : Room := { frames := 2, cells := 0, slots := 0, locals := 44 }
def wwX3_pushPair : List Cond := Cond.code yX3_pushPair cX3_pushPair 2 (some .int) :: wsL_law
theorem hdX3_pushPair : yX3_pushPair.cls = RX3 ∧ yX3_pushPair.cls ≠ "java/lang/invoke/MethodHandle" ∧ yX3_pushPair.cls ≠ "java/lang/invoke/VarHandle" ∧ (parseMethodDescriptor yX3_pushPair.desc).map (fun d => d.parameters.length) = some 1 := by decide +kernel
set_option maxHeartbeats 4000000 in
set_option maxRecDepth 100000 in
theorem c_X3_pushPair (l : Launch) (D : va_G) (cB : ClassId) (cI : ClassId) (gc me ba rg wa sm sz : Nat) (v_im : Bool) (v_ei : Bool) (v_ha : Bool) (v_hb : Bool) (v_cy : Int32) (v_by : Nat → Int32) (v_ct : Int32) (v_wd : Nat → Int32) (a1 : Int32)  : Met l yX3_pushPair wwX3_pushPair rmX3_pushPair (va_Pc [.ref gc, .int a1] (kp D (kX3 cB cI gc me ba rg wa sm v_im v_ei v_ha v_hb v_cy v_by v_ct v_wd) [(cB, .byte), (cI, .int)] sz)) (va_Qi (fun (r : Int32) (u9 : (Nat → Int32) × Int32 × (Nat → Int32)) => (r, u9) = fX3_pushPair v_by v_ct v_wd a1) (fun u9 t => kq D (kX3 cB cI gc me ba rg wa sm v_im v_ei v_ha v_hb v_cy (u9.1) (u9.2.1) (u9.2.2)) [(cB, .byte), (cI, .int)] (va_A (kX3 cB cI gc me ba rg wa sm v_im v_ei v_ha v_hb v_cy v_by v_ct v_wd) sz) t) (va_A (kX3 cB cI gc me ba rg wa sm v_im v_ei v_ha v_hb v_cy v_by v_ct v_wd) sz)) 0 0 (va_A (kX3 cB cI gc me ba rg wa sm v_im v_ei v_ha v_hb v_cy v_by v_ct v_wd) sz) := by
  refine Met.ofW (cc := cX3_pushPair) (maxL := 2) (ret := (some .int)) (by decide) rfl ?_
  intro p e s m args below meth c s₁ B hml hv
  obtain ⟨rfl, hsz, hP, hK, hD0, hT⟩ := hv
  have hx := B.exec
  have hb := B.bytes
  have hr := B.returns
  have hts := atoms_spec (ws := wwX3_pushPair) B.pre
  have hws : ∀ w ∈ wsL_law, w.before _ s = true := fun w h => hts w (List.mem_cons_of_mem _ h)
  have hown : s.vm.findClass RX3 = some m.cls := findClass_of_methodNamed B.named
  have hlocks := B.notSynchronized
  subst hsz
  have hD := hD0.self (sz := s.heap.size)
  generalize hAe : va_A (kX3 cB cI gc me ba rg wa sm v_im v_ei v_ha v_hb v_cy v_by v_ct v_wd) s.heap.size = A at hD hT ⊢
  have hA : ∀ q : Nat, s.heap.size ≤ q → A q := fun q h => by rw [← hAe]; exact Or.inr h
  have hS : va_S A s.heap s.heap [] := va_S.rf
  have hl := lv_entry ([.ref gc, .int a1]) (n := 2) (Nat.le_of_ble_eq_true rfl)
  rw [lg_entry_eq]
  generalize (lg_sl ([.ref gc, .int a1]) ++ List.replicate (2 - (lg_sl ([.ref gc, .int a1])).length) Slot.unset).toArray = ls at hl ⊢
  have hl : lv_has ls 2 [(0, .ref gc), (1, .int a1)] := hl
  generalize hQ : MQ _ _ _ _ _ _ _ = Q
  obtain ⟨H, hHe⟩ : ∃ H : Heap, H = s.heap := ⟨_, rfl⟩
  obtain ⟨locs, hle⟩ : ∃ L : List Loc, L = [] := ⟨_, rfl⟩
  have hP : va_P D vwCl (kX3 cB cI gc me ba rg wa sm v_im v_ei v_ha v_hb v_cy v_by v_ct v_wd) H := by rw [hHe]; exact hP
  have hS : va_S A s.heap H locs := by rw [hHe, hle]; exact hS
  refine kw_start hHe.symm hle.symm ?_
  have hf : fX3_pushPair v_by v_ct v_wd a1 = fX3_pushPair v_by v_ct v_wd a1 := rfl
  refine lv_aload_n hx hb dX3_pushPair_0 rfl (lv_at hl 0 rfl) ?_
  refine lv_aload_n hx hb dX3_pushPair_1 rfl (lv_at hl 0 rfl) ?_
  refine va_get (D := D) (ci := 3) (v := .ref rg) (C := RX3) (T := TX3) (N := 8) hx hb hws inlX3 hown hK hP 0 rfl rfl 1 (by decide) (hws _ mw_20) (fun _ h9 => h9) rfl dX3_pushPair_2 ?_
  refine lv_iload_n hx hb dX3_pushPair_5 rfl (lv_at hl 1 rfl) ?_
  refine kc_Si (As := [.int a1]) (rest := [.ref rg, .ref gc]) ⟨hx, hb, hml, hown, hws⟩ hK hP hD hS hA hT (c_X3_stackPair l D H.size a1) (va_cwS 1 hws (gw_S mw_339 mw_340 mw_2 mw_341) rfl rfl rfl hdX3_stackPair.2 ⟨Nat.le_of_ble_eq_true rfl, Nat.le_of_ble_eq_true rfl⟩) rfl hl.1 rfl (Nat.le_of_ble_eq_true rfl) dX3_pushPair_6 ⟨Nat.zero_le _, Nat.zero_le _⟩ (fun r1 H locs hwr1 hP hD hS => ?_)
  have hf := hf.trans (kE1 hwr1)
  refine kc_Vi (wr := [(gc, .inr (3, [.ref me, .ref rg, .ref sm, .int (bI v_im), .int (bI v_ei), .int (bI v_ha), .int (bI v_hb), .int v_cy])), (me, .inr (0, [.ref ba, .int v_ct])), (ba, .inl (cB, 65536, .inl v_by)), (sm, .inr (2, [.ref rg]))]) (As := [.int r1]) (rest := [.ref gc]) (fun _ => (kX3 cB cI gc me ba rg wa sm v_im v_ei v_ha v_hb v_cy v_by v_ct v_wd)) ⟨hx, hb, hml, hown, hws⟩ hK hP hD hS hA hT (c_X1_word l D cI rg wa H.size v_wd r1) (cwV 1 hws (gw_V mw_123 mw_124 mw_125 mw_32 mw_126) rfl rfl rfl hdX1_word ⟨Nat.le_of_ble_eq_true rfl, Nat.le_of_ble_eq_true rfl⟩) [3, 4] [0, 1, 2, 5] [1] [0, 1, 2, 4, 5, 3] rfl rfl rfl rfl (by decide) rfl (fun _ => rfl) rfl 3 rfl rfl rfl rfl hl.1 rfl (Nat.le_of_ble_eq_true rfl) dX3_pushPair_9 ⟨Nat.zero_le _, Nat.zero_le _⟩ (fun r3 _ H locs hw2 hP hD hS => ?_)
  have hP : va_P D vwCl (kX3 cB cI gc me ba rg wa sm v_im v_ei v_ha v_hb v_cy v_by v_ct v_wd) H := hP
  have hD : va_D A (kX3 cB cI gc me ba rg wa sm v_im v_ei v_ha v_hb v_cy v_by v_ct v_wd) := hD
  have hf := hf.trans (kE1 hw2)
  refine kc_Vv (wr := []) (As := [.int r3]) (rest := []) (fun u9 => (kX3 cB cI gc me ba rg wa sm v_im v_ei v_ha v_hb v_cy (u9.1) (u9.2.1) (u9.2.2))) ⟨hx, hb, hml, hown, hws⟩ hK hP hD hS hA hT (c_X3_push l D cB cI gc me ba rg wa sm H.size v_im v_ei v_ha v_hb v_cy v_by v_ct v_wd r3) (cwV 1 hws (gw_V mw_127 mw_128 mw_129 mw_2 mw_130) rfl rfl rfl hdX3_push ⟨Nat.le_of_ble_eq_true rfl, Nat.le_of_ble_eq_true rfl⟩) [0, 1, 2, 3, 4, 5] [] [0, 1] [0, 1, 2, 3, 4, 5] rfl rfl rfl rfl (by decide) rfl (fun _ => rfl) rfl 0 rfl rfl rfl rfl hl.1 rfl (Nat.le_of_ble_eq_true rfl) dX3_pushPair_12 ⟨Nat.zero_le _, Nat.zero_le _⟩ (fun u9 H locs hw7 hP hD hS => ?_)
  obtain ⟨b4, b5, b6⟩ := u9
  have hP : va_P D vwCl (kX3 cB cI gc me ba rg wa sm v_im v_ei v_ha v_hb v_cy b4 b5 b6) H := hP
  have hD : va_D A (kX3 cB cI gc me ba rg wa sm v_im v_ei v_ha v_hb v_cy b4 b5 b6) := hD
  have hf := hf.trans (kE3 hw7)
  refine lv_iconst (v := 0) hx hb dX3_pushPair_15 (by decide) ?_
  rw [← hQ]
  exact W.iret (v := (0 : Int32)) hx hb hr (fun t ht hW => ⟨⟨(0 : Int32), (b4, b5, b6), rfl, hf.symm, by rw [ht]; exact hP, va_K.moved hW.alike hK, hD⟩, hS.F ht⟩) hS.2.2 dX3_pushPair_16
def fX3_executeLastQuarter (v_im : Bool) (v_ei : Bool) (v_by : Nat → Int32) (v_ct : Int32) (v_wd : Nat → Int32) (a1 : Int32) (a2 : Int32) : Int32 × Bool × Bool × (Nat → Int32) × Int32 × (Nat → Int32) := (kIf (kEq a2 (0 : Int32)) (kIf (kLe (4 : Int32) a1) (kU4 (fX3_executeWithByte v_by v_ct v_wd a1) (fun (r7 : Int32) (b3 : Nat → Int32) (b4 : Int32) (b5 : Nat → Int32) => (r7, v_im, v_ei, b3, b4, b5))) (kU1 (fX3_holds v_wd a1) (fun (z10 : Bool) => (kU2 (fX3_returnIf v_by v_wd z10) (fun (r13 : Int32) (b11 : Nat → Int32) => (r13, v_im, v_ei, v_by, v_ct, b11)))))) (kIf (kEq a2 (1 : Int32)) (kU2 (fX3_popOrMove v_im v_by v_wd a1) (fun (b15 : Bool) (b16 : Nat → Int32) => ((0 : Int32), b15, v_ei, v_by, v_ct, b16))) (kIf (kEq a2 (2 : Int32)) (kIf (kLe (4 : Int32) a1) (kU4 (fX3_loadFar v_by v_ct v_wd a1) (fun (r24 : Int32) (b20 : Nat → Int32) (b21 : Int32) (b22 : Nat → Int32) => (r24, v_im, v_ei, b20, b21, b22))) (kU1 (fX3_holds v_wd a1) (fun (z27 : Bool) => (kU2 (fX3_jumpIf v_by v_wd z27) (fun (r30 : Int32) (b28 : Nat → Int32) => (r30, v_im, v_ei, v_by, v_ct, b28)))))) (kIf (kEq a2 (3 : Int32)) (kIf (kEq a1 (0 : Int32)) (kU2 (fX3_jumpIf v_by v_wd true) (fun (r42 : Int32) (b40 : Nat → Int32) => (r42, v_im, v_ei, v_by, v_ct, b40))) (kU1 (((kIf (kEq a1 (7 : Int32)) true false) : Bool)) (fun (z34 : Bool) => (kU3 (fX3_switchInterrupts v_im v_ei z34) (fun (r39 : Int32) (b36 : Bool) (b37 : Bool) => (r39, b36, b37, v_by, v_ct, v_wd)))))) (kIf (kEq a2 (4 : Int32)) (kU1 (fX3_holds v_wd a1) (fun (z46 : Bool) => (kU4 (fX3_callIf v_by v_ct v_wd z46) (fun (r51 : Int32) (b47 : Nat → Int32) (b48 : Int32) (b49 : Nat → Int32) => (r51, v_im, v_ei, b47, b48, b49))))) (kIf (kEq a2 (5 : Int32)) (kIf (kEq a1 (1 : Int32)) (kU4 (fX3_callIf v_by v_ct v_wd true) (fun (r63 : Int32) (b59 : Nat → Int32) (b60 : Int32) (b61 : Nat → Int32) => (r63, v_im, v_ei, b59, b60, b61))) (kU4 (fX3_pushPair v_by v_ct v_wd a1) (fun (r58 : Int32) (b54 : Nat → Int32) (b55 : Int32) (b56 : Nat → Int32) => (r58, v_im, v_ei, b54, b55, b56)))) (kIf (kEq a2 (6 : Int32)) (kU2 (fX3_fetch v_by v_wd) (fun (r67 : Int32) (b65 : Nat → Int32) => (kU1 (fX2_apply b65 a1 r67) (fun (b68 : Nat → Int32) => ((0 : Int32), v_im, v_ei, v_by, v_ct, b68))))) (kU1 (fX1_word v_wd (5 : Int32)) (fun (r71 : Int32) => (kU3 (fX3_push v_by v_ct v_wd r71) (fun (b72 : Nat → Int32) (b73 : Int32) (b74 : Nat → Int32) => (kU2 (fX1_setWord b74 (5 : Int32) ((8 : Int32) * a1)) (fun (z79 : Bool) (b76 : Nat → Int32) => ((0 : Int32), v_im, v_ei, b72, b73, b76))))))))))))))
def rmX3_executeLastQuarter : Room := { frames := 3, cells := 0, slots := 0, locals := 73 }
def wwX3_executeLastQuarter : List Cond := Cond.code yX3_executeLastQuarter cX3_executeLastQuarter 3 (some .int) :: wsL_law
theorem hdX3_executeLastQuarter : yX3_executeLastQuarter.cls = RX3 ∧ yX3_executeLastQuarter.cls ≠ "java/lang/invoke/MethodHandle" ∧ yX3_executeLastQuarter.cls ≠ "java/lang/invoke/VarHandle" ∧ (parseMethodDescriptor yX3_executeLastQuarter.desc).map (fun d => d.parameters.length) = some 2 := by decide +kernel
set_option maxHeartbeats 4000000 in
set_option maxRecDepth 100000 in
theorem c_X3_executeLastQuarter (l : Launch) (D : va_G) (cB : ClassId) (cI : ClassId) (gc me ba rg wa sm sz : Nat) (v_im : Bool) (v_ei : Bool) (v_ha : Bool) (v_hb : Bool) (v_cy : Int32) (v_by : Nat → Int32) (v_ct : Int32) (v_wd : Nat → Int32) (a1 : Int32) (a2 : Int32)  : Met l yX3_executeLastQuarter wwX3_executeLastQuarter rmX3_executeLastQuarter (va_Pc [.ref gc, .int a1, .int a2] (kp D (kX3 cB cI gc me ba rg wa sm v_im v_ei v_ha v_hb v_cy v_by v_ct v_wd) [(cB, .byte), (cI, .int)] sz)) (va_Qi (fun (r : Int32) (u9 : Bool × Bool × (Nat → Int32) × Int32 × (Nat → Int32)) => (r, u9) = fX3_executeLastQuarter v_im v_ei v_by v_ct v_wd a1 a2) (fun u9 t => kq D (kX3 cB cI gc me ba rg wa sm (u9.1) (u9.2.1) v_ha v_hb v_cy (u9.2.2.1) (u9.2.2.2.1) (u9.2.2.2.2)) [(cB, .byte), (cI, .int)] (va_A (kX3 cB cI gc me ba rg wa sm v_im v_ei v_ha v_hb v_cy v_by v_ct v_wd) sz) t) (va_A (kX3 cB cI gc me ba rg wa sm v_im v_ei v_ha v_hb v_cy v_by v_ct v_wd) sz)) 0 0 (va_A (kX3 cB cI gc me ba rg wa sm v_im v_ei v_ha v_hb v_cy v_by v_ct v_wd) sz) := by
  refine Met.ofW (cc := cX3_executeLastQuarter) (maxL := 3) (ret := (some .int)) (by decide) rfl ?_
  intro p e s m args below meth c s₁ B hml hv
  obtain ⟨rfl, hsz, hP, hK, hD0, hT⟩ := hv
  have hx := B.exec
  have hb := B.bytes
  have hr := B.returns
  have hts := atoms_spec (ws := wwX3_executeLastQuarter) B.pre
  have hws : ∀ w ∈ wsL_law, w.before _ s = true := fun w h => hts w (List.mem_cons_of_mem _ h)
  have hown : s.vm.findClass RX3 = some m.cls := findClass_of_methodNamed B.named
  have hlocks := B.notSynchronized
  subst hsz
  have hD := hD0.self (sz := s.heap.size)
  generalize hAe : va_A (kX3 cB cI gc me ba rg wa sm v_im v_ei v_ha v_hb v_cy v_by v_ct v_wd) s.heap.size = A at hD hT ⊢
  have hA : ∀ q : Nat, s.heap.size ≤ q → A q := fun q h => by rw [← hAe]; exact Or.inr h
  have hS : va_S A s.heap s.heap [] := va_S.rf
  have hl := lv_entry ([.ref gc, .int a1, .int a2]) (n := 3) (Nat.le_of_ble_eq_true rfl)
  rw [lg_entry_eq]
  generalize (lg_sl ([.ref gc, .int a1, .int a2]) ++ List.replicate (3 - (lg_sl ([.ref gc, .int a1, .int a2])).length) Slot.unset).toArray = ls at hl ⊢
  have hl : lv_has ls 3 [(0, .ref gc), (1, .int a1), (2, .int a2)] := hl
  generalize hQ : MQ _ _ _ _ _ _ _ = Q
  obtain ⟨H, hHe⟩ : ∃ H : Heap, H = s.heap := ⟨_, rfl⟩
  obtain ⟨locs, hle⟩ : ∃ L : List Loc, L = [] := ⟨_, rfl⟩
  have hP : va_P D vwCl (kX3 cB cI gc me ba rg wa sm v_im v_ei v_ha v_hb v_cy v_by v_ct v_wd) H := by rw [hHe]; exact hP
  have hS : va_S A s.heap H locs := by rw [hHe, hle]; exact hS
  refine kw_start hHe.symm hle.symm ?_
  have hf : fX3_executeLastQuarter v_im v_ei v_by v_ct v_wd a1 a2 = fX3_executeLastQuarter v_im v_ei v_by v_ct v_wd a1 a2 := rfl
  refine lv_iload_n hx hb dX3_executeLastQuarter_0 rfl (lv_at hl 2 rfl) ?_
  by_cases c1 : a2 = (0 : Int32)
  · have hf := hf.trans (kt_eq c1)
    refine lv_tableIn (off := 43) (tgt := 44) hx hb dX3_executeLastQuarter_1 (by rw [c1]; decide) (by rw [c1]; decide) (by rw [c1]; decide) (by decide) ?_
    refine lv_iload_n hx hb dX3_executeLastQuarter_44 rfl (lv_at hl 1 rfl) ?_
    refine lv_iconst (v := 4) hx hb dX3_executeLastQuarter_45 (by decide) ?_
    refine lv_icmp_ge (tgt := 61) hx hb dX3_executeLastQuarter_46 (by decide) (fun c2 => ?_) (fun c2 => ?_)
    · have hf := hf.trans (kt_le c2)
      refine lv_aload_n hx hb dX3_executeLastQuarter_61 rfl (lv_at hl 0 rfl) ?_
      refine lv_iload_n hx hb dX3_executeLastQuarter_62 rfl (lv_at hl 1 rfl) ?_
      refine kc_Vi (wr := []) (As := [.int a1]) (rest := []) (fun u9 => (kX3 cB cI gc me ba rg wa sm v_im v_ei v_ha v_hb v_cy (u9.1) (u9.2.1) (u9.2.2))) ⟨hx, hb, hml, hown, hws⟩ hK hP hD hS hA hT (c_X3_executeWithByte l D cB cI gc me ba rg wa sm H.size v_im v_ei v_ha v_hb v_cy v_by v_ct v_wd a1) (cwV 1 hws (gw_V mw_326 mw_327 mw_328 mw_2 mw_329) rfl rfl rfl hdX3_executeWithByte ⟨Nat.le_of_ble_eq_true rfl, Nat.le_of_ble_eq_true rfl⟩) [0, 1, 2, 3, 4, 5] [] [0, 1] [0, 1, 2, 3, 4, 5] rfl rfl rfl rfl (by decide) rfl (fun _ => rfl) rfl 0 rfl rfl rfl rfl hl.1 rfl (Nat.le_of_ble_eq_true rfl) dX3_executeLastQuarter_63 ⟨Nat.zero_le _, Nat.zero_le _⟩ (fun r7 u9 H locs hw6 hP hD hS => ?_)
      obtain ⟨b3, b4, b5⟩ := u9
      have hP : va_P D vwCl (kX3 cB cI gc me ba rg wa sm v_im v_ei v_ha v_hb v_cy b3 b4 b5) H := hP
      have hD : va_D A (kX3 cB cI gc me ba rg wa sm v_im v_ei v_ha v_hb v_cy b3 b4 b5) := hD
      have hf := hf.trans (kE4 hw6)
      rw [← hQ]
      exact W.iret (v := r7) hx hb hr (fun t ht hW => ⟨⟨r7, (v_im, v_ei, b3, b4, b5), rfl, hf.symm, by rw [ht]; exact hP, va_K.moved hW.alike hK, hD⟩, hS.F ht⟩) hS.2.2 dX3_executeLastQuarter_66
    · have hf := hf.trans (kf_le c2)
      refine lv_aload_n hx hb dX3_executeLastQuarter_49 rfl (lv_at hl 0 rfl) ?_
      refine lv_aload_n hx hb dX3_executeLastQuarter_50 rfl (lv_at hl 0 rfl) ?_
      refine lv_iload_n hx hb dX3_executeLastQuarter_51 rfl (lv_at hl 1 rfl) ?_
      refine kc_Vi (wr := []) (As := [.int a1]) (rest := [.ref gc]) (fun _ => (kX3 cB cI gc me ba rg wa sm v_im v_ei v_ha v_hb v_cy v_by v_ct v_wd)) ⟨hx, hb, hml, hown, hws⟩ hK hP hD hS hA hT (c_X3_holds l D cB cI gc me ba rg wa sm H.size v_im v_ei v_ha v_hb v_cy v_by v_ct v_wd a1) (cwV 1 hws (gw_V mw_239 mw_240 mw_241 mw_2 mw_242) rfl rfl rfl hdX3_holds ⟨Nat.le_of_ble_eq_true rfl, Nat.le_of_ble_eq_true rfl⟩) [0, 1, 2, 3, 4, 5] [] [0, 1] [0, 1, 2, 3, 4, 5] rfl rfl rfl rfl (by decide) rfl (fun _ => rfl) rfl 0 rfl rfl rfl rfl hl.1 rfl (Nat.le_of_ble_eq_true rfl) dX3_executeLastQuarter_52 ⟨Nat.zero_le _, Nat.zero_le _⟩ (fun r9 _ H locs hw8 hP hD hS => ?_)
      obtain ⟨z10, rfl, hw8⟩ := hw8
      have hP : va_P D vwCl (kX3 cB cI gc me ba rg wa sm v_im v_ei v_ha v_hb v_cy v_by v_ct v_wd) H := hP
      have hD : va_D A (kX3 cB cI gc me ba rg wa sm v_im v_ei v_ha v_hb v_cy v_by v_ct v_wd) := hD
      have hf := hf.trans (kE1 hw8)
      refine kc_Vi (wr := []) (As := [.int (bI z10)]) (rest := []) (fun u9 => (kX3 cB cI gc me ba rg wa sm v_im v_ei v_ha v_hb v_cy v_by v_ct u9)) ⟨hx, hb, hml, hown, hws⟩ hK hP hD hS hA hT (c_X3_returnIf l D cB cI gc me ba rg wa sm H.size v_im v_ei v_ha v_hb v_cy v_by v_ct v_wd z10) (cwV 1 hws (gw_V mw_318 mw_319 mw_320 mw_2 mw_321) rfl rfl rfl hdX3_returnIf ⟨Nat.le_of_ble_eq_true rfl, Nat.le_of_ble_eq_true rfl⟩) [0, 1, 2, 3, 4, 5] [] [0, 1] [0, 1, 2, 3, 4, 5] rfl rfl rfl rfl (by decide) rfl (fun _ => rfl) rfl 0 rfl rfl rfl rfl hl.1 rfl (Nat.le_of_ble_eq_true rfl) dX3_executeLastQuarter_55 ⟨Nat.zero_le _, Nat.zero_le _⟩ (fun r13 b11 H locs hw12 hP hD hS => ?_)
      have hP : va_P D vwCl (kX3 cB cI gc me ba rg wa sm v_im v_ei v_ha v_hb v_cy v_by v_ct b11) H := hP
      have hD : va_D A (kX3 cB cI gc me ba rg wa sm v_im v_ei v_ha v_hb v_cy v_by v_ct b11) := hD
      have hf := hf.trans (kE2 hw12)
      refine lv_goto (tgt := 66) hx hb dX3_executeLastQuarter_58 (by decide) ?_
      rw [← hQ]
      exact W.iret (v := r13) hx hb hr (fun t ht hW => ⟨⟨r13, (v_im, v_ei, v_by, v_ct, b11), rfl, hf.symm, by rw [ht]; exact hP, va_K.moved hW.alike hK, hD⟩, hS.F ht⟩) hS.2.2 dX3_executeLastQuarter_66
  · have hf := hf.trans (kf_eq c1)
    by_cases c14 : a2 = (1 : Int32)
    · have hf := hf.trans (kt_eq c14)
      refine lv_tableIn (off := 66) (tgt := 67) hx hb dX3_executeLastQuarter_1 (by rw [c14]; decide) (by rw [c14]; decide) (by rw [c14]; decide) (by decide) ?_
      refine lv_aload_n hx hb dX3_executeLastQuarter_67 rfl (lv_at hl 0 rfl) ?_
      refine lv_iload_n hx hb dX3_executeLastQuarter_68 rfl (lv_at hl 1 rfl) ?_
      refine kc_Vv (wr := []) (As := [.int a1]) (rest := []) (fun u9 => (kX3 cB cI gc me ba rg wa sm (u9.1) v_ei v_ha v_hb v_cy v_by v_ct (u9.2))) ⟨hx, hb, hml, hown, hws⟩ hK hP hD hS hA hT (c_X3_popOrMove l D cB cI gc me ba rg wa sm H.size v_im v_ei v_ha v_hb v_cy v_by v_ct v_wd a1) (cwV 1 hws (gw_V mw_335 mw_336 mw_337 mw_2 mw_338) rfl rfl rfl hdX3_popOrMove ⟨Nat.le_of_ble_eq_true rfl, Nat.le_of_ble_eq_true rfl⟩) [0, 1, 2, 3, 4, 5] [] [0, 1] [0, 1, 2, 3, 4, 5] rfl rfl rfl rfl (by decide) rfl (fun _ => rfl) rfl 0 rfl rfl rfl rfl hl.1 rfl (Nat.le_of_ble_eq_true rfl) dX3_executeLastQuarter_69 ⟨Nat.zero_le _, Nat.zero_le _⟩ (fun u9 H locs hw17 hP hD hS => ?_)
      obtain ⟨b15, b16⟩ := u9
      have hP : va_P D vwCl (kX3 cB cI gc me ba rg wa sm b15 v_ei v_ha v_hb v_cy v_by v_ct b16) H := hP
      have hD : va_D A (kX3 cB cI gc me ba rg wa sm b15 v_ei v_ha v_hb v_cy v_by v_ct b16) := hD
      have hf := hf.trans (kE2 hw17)
      refine lv_iconst (v := 0) hx hb dX3_executeLastQuarter_72 (by decide) ?_
      rw [← hQ]
      exact W.iret (v := (0 : Int32)) hx hb hr (fun t ht hW => ⟨⟨(0 : Int32), (b15, v_ei, v_by, v_ct, b16), rfl, hf.symm, by rw [ht]; exact hP, va_K.moved hW.alike hK, hD⟩, hS.F ht⟩) hS.2.2 dX3_executeLastQuarter_73
    · have hf := hf.trans (kf_eq c14)
      by_cases c18 : a2 = (2 : Int32)
      · have hf := hf.trans (kt_eq c18)
        refine lv_tableIn (off := 73) (tgt := 74) hx hb dX3_executeLastQuarter_1 (by rw [c18]; decide) (by rw [c18]; decide) (by rw [c18]; decide) (by decide) ?_
        refine lv_iload_n hx hb dX3_executeLastQuarter_74 rfl (lv_at hl 1 rfl) ?_
        refine lv_iconst (v := 4) hx hb dX3_executeLastQuarter_75 (by decide) ?_
        refine lv_icmp_ge (tgt := 91) hx hb dX3_executeLastQuarter_76 (by decide) (fun c19 => ?_) (fun c19 => ?_)
        · have hf := hf.trans (kt_le c19)
          refine lv_aload_n hx hb dX3_executeLastQuarter_91 rfl (lv_at hl 0 rfl) ?_
          refine lv_iload_n hx hb dX3_executeLastQuarter_92 rfl (lv_at hl 1 rfl) ?_
          refine kc_Vi (wr := []) (As := [.int a1]) (rest := []) (fun u9 => (kX3 cB cI gc me ba rg wa sm v_im v_ei v_ha v_hb v_cy (u9.1) (u9.2.1) (u9.2.2))) ⟨hx, hb, hml, hown, hws⟩ hK hP hD hS hA hT (c_X3_loadFar l D cB cI gc me ba rg wa sm H.size v_im v_ei v_ha v_hb v_cy v_by v_ct v_wd a1) (cwV 1 hws (gw_V mw_346 mw_347 mw_348 mw_2 mw_349) rfl rfl rfl hdX3_loadFar ⟨Nat.le_of_ble_eq_true rfl, Nat.le_of_ble_eq_true rfl⟩) [0, 1, 2, 3, 4, 5] [] [0, 1] [0, 1, 2, 3, 4, 5] rfl rfl rfl rfl (by decide) rfl (fun _ => rfl) rfl 0 rfl rfl rfl rfl hl.1 rfl (Nat.le_of_ble_eq_true rfl) dX3_executeLastQuarter_93 ⟨Nat.zero_le _, Nat.zero_le _⟩ (fun r24 u9 H locs hw23 hP hD hS => ?_)
          obtain ⟨b20, b21, b22⟩ := u9
          have hP : va_P D vwCl (kX3 cB cI gc me ba rg wa sm v_im v_ei v_ha v_hb v_cy b20 b21 b22) H := hP
          have hD : va_D A (kX3 cB cI gc me ba rg wa sm v_im v_ei v_ha v_hb v_cy b20 b21 b22) := hD
          have hf := hf.trans (kE4 hw23)
          rw [← hQ]
          exact W.iret (v := r24) hx hb hr (fun t ht hW => ⟨⟨r24, (v_im, v_ei, b20, b21, b22), rfl, hf.symm, by rw [ht]; exact hP, va_K.moved hW.alike hK, hD⟩, hS.F ht⟩) hS.2.2 dX3_executeLastQuarter_96
        · have hf := hf.trans (kf_le c19)
          refine lv_aload_n hx hb dX3_executeLastQuarter_79 rfl (lv_at hl 0 rfl) ?_
          refine lv_aload_n hx hb dX3_executeLastQuarter_80 rfl (lv_at hl 0 rfl) ?_
          refine lv_iload_n hx hb dX3_executeLastQuarter_81 rfl (lv_at hl 1 rfl) ?_
          refine kc_Vi (wr := []) (As := [.int a1]) (rest := [.ref gc]) (fun _ => (kX3 cB cI gc me ba rg wa sm v_im v_ei v_ha v_hb v_cy v_by v_ct v_wd)) ⟨hx, hb, hml, hown, hws⟩ hK hP hD hS hA hT (c_X3_holds l D cB cI gc me ba rg wa sm H.size v_im v_ei v_ha v_hb v_cy v_by v_ct v_wd a1) (cwV 1 hws (gw_V mw_239 mw_240 mw_241 mw_2 mw_242) rfl rfl rfl hdX3_holds ⟨Nat.le_of_ble_eq_true rfl, Nat.le_of_ble_eq_true rfl⟩) [0, 1, 2, 3, 4, 5] [] [0, 1] [0, 1, 2, 3, 4, 5] rfl rfl rfl rfl (by decide) rfl (fun _ => rfl) rfl 0 rfl rfl rfl rfl hl.1 rfl (Nat.le_of_ble_eq_true rfl) dX3_executeLastQuarter_82 ⟨Nat.zero_le _, Nat.zero_le _⟩ (fun r26 _ H locs hw25 hP hD hS => ?_)
          obtain ⟨z27, rfl, hw25⟩ := hw25
          have hP : va_P D vwCl (kX3 cB cI gc me ba rg wa sm v_im v_ei v_ha v_hb v_cy v_by v_ct v_wd) H := hP
          have hD : va_D A (kX3 cB cI gc me ba rg wa sm v_im v_ei v_ha v_hb v_cy v_by v_ct v_wd) := hD
          have hf := hf.trans (kE1 hw25)
          refine kc_Vi (wr := []) (As := [.int (bI z27)]) (rest := []) (fun u9 => (kX3 cB cI gc me ba rg wa sm v_im v_ei v_ha v_hb v_cy v_by v_ct u9)) ⟨hx, hb, hml, hown, hws⟩ hK hP hD hS hA hT (c_X3_jumpIf l D cB cI gc me ba rg wa sm H.size v_im v_ei v_ha v_hb v_cy v_by v_ct v_wd z27) (cwV 1 hws (gw_V mw_342 mw_343 mw_344 mw_2 mw_345) rfl rfl rfl hdX3_jumpIf ⟨Nat.le_of_ble_eq_true rfl, Nat.le_of_ble_eq_true rfl⟩) [0, 1, 2, 3, 4, 5] [] [0, 1] [0, 1, 2, 3, 4, 5] rfl rfl rfl rfl (by decide) rfl (fun _ => rfl) rfl 0 rfl rfl rfl rfl hl.1 rfl (Nat.le_of_ble_eq_true rfl) dX3_executeLastQuarter_85 ⟨Nat.zero_le _, Nat.zero_le _⟩ (fun r30 b28 H locs hw29 hP hD hS => ?_)
          have hP : va_P D vwCl (kX3 cB cI gc me ba rg wa sm v_im v_ei v_ha v_hb v_cy v_by v_ct b28) H := hP
          have hD : va_D A (kX3 cB cI gc me ba rg wa sm v_im v_ei v_ha v_hb v_cy v_by v_ct b28) := hD
          have hf := hf.trans (kE2 hw29)
          refine lv_goto (tgt := 96) hx hb dX3_executeLastQuarter_88 (by decide) ?_
          rw [← hQ]
          exact W.iret (v := r30) hx hb hr (fun t ht hW => ⟨⟨r30, (v_im, v_ei, v_by, v_ct, b28), rfl, hf.symm, by rw [ht]; exact hP, va_K.moved hW.alike hK, hD⟩, hS.F ht⟩) hS.2.2 dX3_executeLastQuarter_96
      · have hf := hf.trans (kf_eq c18)
        by_cases c31 : a2 = (3 : Int32)
        · have hf := hf.trans (kt_eq c31)
          refine lv_tableIn (off := 96) (tgt := 97) hx hb dX3_executeLastQuarter_1 (by rw [c31]; decide) (by rw [c31]; decide) (by rw [c31]; decide) (by decide) ?_
          refine lv_iload_n hx hb dX3_executeLastQuarter_97 rfl (lv_at hl 1 rfl) ?_
          refine lv_if_ne (tgt := 109) hx hb dX3_executeLastQuarter_98 (by decide) (fun c32 => ?_) (fun c32 => ?_)
          · have hf := hf.trans (kf_eq c32)
            refine lv_aload_n hx hb dX3_executeLastQuarter_109 rfl (lv_at hl 0 rfl) ?_
            refine lv_iload_n hx hb dX3_executeLastQuarter_110 rfl (lv_at hl 1 rfl) ?_
            refine lv_bipush (v := 7) hx hb dX3_executeLastQuarter_111 (by decide) ?_
            obtain ⟨TJ35, hTJ35⟩ : ∃ T9 : Bool, T9 = (kIf (kEq a1 (7 : Int32)) true false) := ⟨_, rfl⟩
            have J35 : ∀ (z34 : Bool), z34 = TJ35 → ∀ (H : Heap) (locs : List Loc) (ls : Array Slot), lv_has ls 3 [(0, .ref gc), (1, .int a1), (2, .int a2)] → va_P D vwCl (kX3 cB cI gc me ba rg wa sm v_im v_ei v_ha v_hb v_cy v_by v_ct v_wd) H → va_D A (kX3 cB cI gc me ba rg wa sm v_im v_ei v_ha v_hb v_cy v_by v_ct v_wd) → va_S A s.heap H locs → W p l e (headSpec wwX3_executeLastQuarter rmX3_executeLastQuarter).room s m ([.ref gc, .int a1, .int a2] : List Value).toArray below meth c H locs 0 0 Q (F0 m 121 ls [.int (bI z34), .ref gc]) := by
              intro z34 eJ35 H locs ls hl hP hD hS
              have hf := hf.trans (kE1 (eJ35.trans hTJ35))
              refine kc_Vi (wr := []) (As := [.int (bI z34)]) (rest := []) (fun u9 => (kX3 cB cI gc me ba rg wa sm (u9.1) (u9.2) v_ha v_hb v_cy v_by v_ct v_wd)) ⟨hx, hb, hml, hown, hws⟩ hK hP hD hS hA hT (c_X3_switchInterrupts l D cB cI gc me ba rg wa sm H.size v_im v_ei v_ha v_hb v_cy v_by v_ct v_wd z34) (cwV 1 hws (gw_V mw_350 mw_351 mw_352 mw_2 mw_353) rfl rfl rfl hdX3_switchInterrupts ⟨Nat.le_of_ble_eq_true rfl, Nat.le_of_ble_eq_true rfl⟩) [0, 1, 2, 3, 4, 5] [] [0, 1] [0, 1, 2, 3, 4, 5] rfl rfl rfl rfl (by decide) rfl (fun _ => rfl) rfl 0 rfl rfl rfl rfl hl.1 rfl (Nat.le_of_ble_eq_true rfl) dX3_executeLastQuarter_121 ⟨Nat.zero_le _, Nat.zero_le _⟩ (fun r39 u9 H locs hw38 hP hD hS => ?_)
              obtain ⟨b36, b37⟩ := u9
              have hP : va_P D vwCl (kX3 cB cI gc me ba rg wa sm b36 b37 v_ha v_hb v_cy v_by v_ct v_wd) H := hP
              have hD : va_D A (kX3 cB cI gc me ba rg wa sm b36 b37 v_ha v_hb v_cy v_by v_ct v_wd) := hD
              have hf := hf.trans (kE3 hw38)
              rw [← hQ]
              exact W.iret (v := r39) hx hb hr (fun t ht hW => ⟨⟨r39, (b36, b37, v_by, v_ct, v_wd), rfl, hf.symm, by rw [ht]; exact hP, va_K.moved hW.alike hK, hD⟩, hS.F ht⟩) hS.2.2 dX3_executeLastQuarter_124
            have hf := hTJ35
            refine lv_icmp_ne (tgt := 120) hx hb dX3_executeLastQuarter_113 (by decide) (fun c33 => ?_) (fun c33 => ?_)
            · have hf := hf.trans (kf_eq c33)
              refine lv_iconst (v := 0) hx hb dX3_executeLastQuarter_120 (by decide) ?_
              exact J35 false hf.symm H locs ls (lv_sub hl [0, 1, 2] rfl) hP hD hS
            · have hf := hf.trans (kt_eq c33)
              refine lv_iconst (v := 1) hx hb dX3_executeLastQuarter_116 (by decide) ?_
              refine lv_goto (tgt := 121) hx hb dX3_executeLastQuarter_117 (by decide) ?_
              exact J35 true hf.symm H locs ls (lv_sub hl [0, 1, 2] rfl) hP hD hS
          · have hf := hf.trans (kt_eq c32)
            refine lv_aload_n hx hb dX3_executeLastQuarter_101 rfl (lv_at hl 0 rfl) ?_
            refine lv_iconst (v := 1) hx hb dX3_executeLastQuarter_102 (by decide) ?_
            refine kc_Vi (wr := []) (As := [.int (bI true)]) (rest := []) (fun u9 => (kX3 cB cI gc me ba rg wa sm v_im v_ei v_ha v_hb v_cy v_by v_ct u9)) ⟨hx, hb, hml, hown, hws⟩ hK hP hD hS hA hT (c_X3_jumpIf l D cB cI gc me ba rg wa sm H.size v_im v_ei v_ha v_hb v_cy v_by v_ct v_wd true) (cwV 1 hws (gw_V mw_342 mw_343 mw_344 mw_2 mw_345) rfl rfl rfl hdX3_jumpIf ⟨Nat.le_of_ble_eq_true rfl, Nat.le_of_ble_eq_true rfl⟩) [0, 1, 2, 3, 4, 5] [] [0, 1] [0, 1, 2, 3, 4, 5] rfl rfl rfl rfl (by decide) rfl (fun _ => rfl) rfl 0 rfl rfl rfl rfl hl.1 rfl (Nat.le_of_ble_eq_true rfl) dX3_executeLastQuarter_103 ⟨Nat.zero_le _, Nat.zero_le _⟩ (fun r42 b40 H locs hw41 hP hD hS => ?_)
            have hP : va_P D vwCl (kX3 cB cI gc me ba rg wa sm v_im v_ei v_ha v_hb v_cy v_by v_ct b40) H := hP
            have hD : va_D A (kX3 cB cI gc me ba rg wa sm v_im v_ei v_ha v_hb v_cy v_by v_ct b40) := hD
            have hf := hf.trans (kE2 hw41)
            refine lv_goto (tgt := 124) hx hb dX3_executeLastQuarter_106 (by decide) ?_
            rw [← hQ]
            exact W.iret (v := r42) hx hb hr (fun t ht hW => ⟨⟨r42, (v_im, v_ei, v_by, v_ct, b40), rfl, hf.symm, by rw [ht]; exact hP, va_K.moved hW.alike hK, hD⟩, hS.F ht⟩) hS.2.2 dX3_executeLastQuarter_124
        · have hf := hf.trans (kf_eq c31)
          by_cases c43 : a2 = (4 : Int32)
          · have hf := hf.trans (kt_eq c43)
            refine lv_tableIn (off := 124) (tgt := 125) hx hb dX3_executeLastQuarter_1 (by rw [c43]; decide) (by rw [c43]; decide) (by rw [c43]; decide) (by decide) ?_
            refine lv_aload_n hx hb dX3_executeLastQuarter_125 rfl (lv_at hl 0 rfl) ?_
            refine lv_aload_n hx hb dX3_executeLastQuarter_126 rfl (lv_at hl 0 rfl) ?_
            refine lv_iload_n hx hb dX3_executeLastQuarter_127 rfl (lv_at hl 1 rfl) ?_
            refine kc_Vi (wr := []) (As := [.int a1]) (rest := [.ref gc]) (fun _ => (kX3 cB cI gc me ba rg wa sm v_im v_ei v_ha v_hb v_cy v_by v_ct v_wd)) ⟨hx, hb, hml, hown, hws⟩ hK hP hD hS hA hT (c_X3_holds l D cB cI gc me ba rg wa sm H.size v_im v_ei v_ha v_hb v_cy v_by v_ct v_wd a1) (cwV 1 hws (gw_V mw_239 mw_240 mw_241 mw_2 mw_242) rfl rfl rfl hdX3_holds ⟨Nat.le_of_ble_eq_true rfl, Nat.le_of_ble_eq_true rfl⟩) [0, 1, 2, 3, 4, 5] [] [0, 1] [0, 1, 2, 3, 4, 5] rfl rfl rfl rfl (by decide) rfl (fun _ => rfl) rfl 0 rfl rfl rfl rfl hl.1 rfl (Nat.le_of_ble_eq_true rfl) dX3_executeLastQuarter_128 ⟨Nat.zero_le _, Nat.zero_le _⟩ (fun r45 _ H locs hw44 hP hD hS => ?_)
            obtain ⟨z46, rfl, hw44⟩ := hw44
            have hP : va_P D vwCl (kX3 cB cI gc me ba rg wa sm v_im v_ei v_ha v_hb v_cy v_by v_ct v_wd) H := hP
            have hD : va_D A (kX3 cB cI gc me ba rg wa sm v_im v_ei v_ha v_hb v_cy v_by v_ct v_wd) := hD
            have hf := hf.trans (kE1 hw44)
            refine kc_Vi (wr := []) (As := [.int (bI z46)]) (rest := []) (fun u9 => (kX3 cB cI gc me ba rg wa sm v_im v_ei v_ha v_hb v_cy (u9.1) (u9.2.1) (u9.2.2))) ⟨hx, hb, hml, hown, hws⟩ hK hP hD hS hA hT (c_X3_callIf l D cB cI gc me ba rg wa sm H.size v_im v_ei v_ha v_hb v_cy v_by v_ct v_wd z46) (cwV 1 hws (gw_V mw_354 mw_355 mw_356 mw_2 mw_357) rfl rfl rfl hdX3_callIf ⟨Nat.le_of_ble_eq_true rfl, Nat.le_of_ble_eq_true rfl⟩) [0, 1, 2, 3, 4, 5] [] [0, 1] [0, 1, 2, 3, 4, 5] rfl rfl rfl rfl (by decide) rfl (fun _ => rfl) rfl 0 rfl rfl rfl rfl hl.1 rfl (Nat.le_of_ble_eq_true rfl) dX3_executeLastQuarter_131 ⟨Nat.zero_le _, Nat.zero_le _⟩ (fun r51 u9 H locs hw50 hP hD hS => ?_)
            obtain ⟨b47, b48, b49⟩ := u9
            have hP : va_P D vwCl (kX3 cB cI gc me ba rg wa sm v_im v_ei v_ha v_hb v_cy b47 b48 b49) H := hP
            have hD : va_D A (kX3 cB cI gc me ba rg wa sm v_im v_ei v_ha v_hb v_cy b47 b48 b49) := hD
            have hf := hf.trans (kE4 hw50)
            rw [← hQ]
            exact W.iret (v := r51) hx hb hr (fun t ht hW => ⟨⟨r51, (v_im, v_ei, b47, b48, b49), rfl, hf.symm, by rw [ht]; exact hP, va_K.moved hW.alike hK, hD⟩, hS.F ht⟩) hS.2.2 dX3_executeLastQuarter_134
          · have hf := hf.trans (kf_eq c43)
            by_cases c52 : a2 = (5 : Int32)
            · have hf := hf.trans (kt_eq c52)
              refine lv_tableIn (off := 134) (tgt := 135) hx hb dX3_executeLastQuarter_1 (by rw [c52]; decide) (by rw [c52]; decide) (by rw [c52]; decide) (by decide) ?_
              refine lv_iload_n hx hb dX3_executeLastQuarter_135 rfl (lv_at hl 1 rfl) ?_
              refine lv_iconst (v := 1) hx hb dX3_executeLastQuarter_136 (by decide) ?_
              refine lv_icmp_ne (tgt := 148) hx hb dX3_executeLastQuarter_137 (by decide) (fun c53 => ?_) (fun c53 => ?_)
              · have hf := hf.trans (kf_eq c53)
                refine lv_aload_n hx hb dX3_executeLastQuarter_148 rfl (lv_at hl 0 rfl) ?_
                refine lv_iload_n hx hb dX3_executeLastQuarter_149 rfl (lv_at hl 1 rfl) ?_
                refine kc_Vi (wr := []) (As := [.int a1]) (rest := []) (fun u9 => (kX3 cB cI gc me ba rg wa sm v_im v_ei v_ha v_hb v_cy (u9.1) (u9.2.1) (u9.2.2))) ⟨hx, hb, hml, hown, hws⟩ hK hP hD hS hA hT (c_X3_pushPair l D cB cI gc me ba rg wa sm H.size v_im v_ei v_ha v_hb v_cy v_by v_ct v_wd a1) (cwV 1 hws (gw_V mw_358 mw_359 mw_360 mw_2 mw_361) rfl rfl rfl hdX3_pushPair ⟨Nat.le_of_ble_eq_true rfl, Nat.le_of_ble_eq_true rfl⟩) [0, 1, 2, 3, 4, 5] [] [0, 1] [0, 1, 2, 3, 4, 5] rfl rfl rfl rfl (by decide) rfl (fun _ => rfl) rfl 0 rfl rfl rfl rfl hl.1 rfl (Nat.le_of_ble_eq_true rfl) dX3_executeLastQuarter_150 ⟨Nat.zero_le _, Nat.zero_le _⟩ (fun r58 u9 H locs hw57 hP hD hS => ?_)
                obtain ⟨b54, b55, b56⟩ := u9
                have hP : va_P D vwCl (kX3 cB cI gc me ba rg wa sm v_im v_ei v_ha v_hb v_cy b54 b55 b56) H := hP
                have hD : va_D A (kX3 cB cI gc me ba rg wa sm v_im v_ei v_ha v_hb v_cy b54 b55 b56) := hD
                have hf := hf.trans (kE4 hw57)
                rw [← hQ]
                exact W.iret (v := r58) hx hb hr (fun t ht hW => ⟨⟨r58, (v_im, v_ei, b54, b55, b56), rfl, hf.symm, by rw [ht]; exact hP, va_K.moved hW.alike hK, hD⟩, hS.F ht⟩) hS.2.2 dX3_executeLastQuarter_153
              · have hf := hf.trans (kt_eq c53)
                refine lv_aload_n hx hb dX3_executeLastQuarter_140 rfl (lv_at hl 0 rfl) ?_
                refine lv_iconst (v := 1) hx hb dX3_executeLastQuarter_141 (by decide) ?_
                refine kc_Vi (wr := []) (As := [.int (bI true)]) (rest := []) (fun u9 => (kX3 cB cI gc me ba rg wa sm v_im v_ei v_ha v_hb v_cy (u9.1) (u9.2.1) (u9.2.2))) ⟨hx, hb, hml, hown, hws⟩ hK hP hD hS hA hT (c_X3_callIf l D cB cI gc me ba rg wa sm H.size v_im v_ei v_ha v_hb v_cy v_by v_ct v_wd true) (cwV 1 hws (gw_V mw_354 mw_355 mw_356 mw_2 mw_357) rfl rfl rfl hdX3_callIf ⟨Nat.le_of_ble_eq_true rfl, Nat.le_of_ble_eq_true rfl⟩) [0, 1, 2, 3, 4, 5] [] [0, 1] [0, 1, 2, 3, 4, 5] rfl rfl rfl rfl (by decide) rfl (fun _ => rfl) rfl 0 rfl rfl rfl rfl hl.1 rfl (Nat.le_of_ble_eq_true rfl) dX3_executeLastQuarter_142 ⟨Nat.zero_le _, Nat.zero_le _⟩ (fun r63 u9 H locs hw62 hP hD hS => ?_)
                obtain ⟨b59, b60, b61⟩ := u9
                have hP : va_P D vwCl (kX3 cB cI gc me ba rg wa sm v_im v_ei v_ha v_hb v_cy b59 b60 b61) H := hP
                have hD : va_D A (kX3 cB cI gc me ba rg wa sm v_im v_ei v_ha v_hb v_cy b59 b60 b61) := hD
                have hf := hf.trans (kE4 hw62)
                refine lv_goto (tgt := 153) hx hb dX3_executeLastQuarter_145 (by decide) ?_
                rw [← hQ]
                exact W.iret (v := r63) hx hb hr (fun t ht hW => ⟨⟨r63, (v_im, v_ei, b59, b60, b61), rfl, hf.symm, by rw [ht]; exact hP, va_K.moved hW.alike hK, hD⟩, hS.F ht⟩) hS.2.2 dX3_executeLastQuarter_153
            · have hf := hf.trans (kf_eq c52)
              by_cases c64 : a2 = (6 : Int32)
              · have hf := hf.trans (kt_eq c64)
                refine lv_tableIn (off := 153) (tgt := 154) hx hb dX3_executeLastQuarter_1 (by rw [c64]; decide) (by rw [c64]; decide) (by rw [c64]; decide) (by decide) ?_
                refine lv_aload_n hx hb dX3_executeLastQuarter_154 rfl (lv_at hl 0 rfl) ?_
                refine va_get (D := D) (ci := 3) (v := .ref sm) (C := RX3) (T := TX3) (N := 8) hx hb hws inlX3 hown hK hP 0 rfl rfl 2 (by decide) (hws _ mw_19) (fun _ h9 => h9) rfl dX3_executeLastQuarter_155 ?_
                refine lv_iload_n hx hb dX3_executeLastQuarter_158 rfl (lv_at hl 1 rfl) ?_
                refine lv_aload_n hx hb dX3_executeLastQuarter_159 rfl (lv_at hl 0 rfl) ?_
                refine kc_Vi (wr := []) (As := []) (rest := [.int a1, .ref sm]) (fun u9 => (kX3 cB cI gc me ba rg wa sm v_im v_ei v_ha v_hb v_cy v_by v_ct u9)) ⟨hx, hb, hml, hown, hws⟩ hK hP hD hS hA hT (c_X3_fetch l D cB cI gc me ba rg wa sm H.size v_im v_ei v_ha v_hb v_cy v_by v_ct v_wd ) (cwV 0 hws (gw_V mw_181 mw_182 mw_183 mw_2 mw_184) rfl rfl rfl hdX3_fetch ⟨Nat.le_of_ble_eq_true rfl, Nat.le_of_ble_eq_true rfl⟩) [0, 1, 2, 3, 4, 5] [] [0, 1] [0, 1, 2, 3, 4, 5] rfl rfl rfl rfl (by decide) rfl (fun _ => rfl) rfl 0 rfl rfl rfl rfl hl.1 rfl (Nat.le_of_ble_eq_true rfl) dX3_executeLastQuarter_160 ⟨Nat.zero_le _, Nat.zero_le _⟩ (fun r67 b65 H locs hw66 hP hD hS => ?_)
                have hP : va_P D vwCl (kX3 cB cI gc me ba rg wa sm v_im v_ei v_ha v_hb v_cy v_by v_ct b65) H := hP
                have hD : va_D A (kX3 cB cI gc me ba rg wa sm v_im v_ei v_ha v_hb v_cy v_by v_ct b65) := hD
                have hf := hf.trans (kE2 hw66)
                refine kc_Vv (wr := [(gc, .inr (3, [.ref me, .ref rg, .ref sm, .int (bI v_im), .int (bI v_ei), .int (bI v_ha), .int (bI v_hb), .int v_cy])), (me, .inr (0, [.ref ba, .int v_ct])), (ba, .inl (cB, 65536, .inl v_by))]) (As := [.int a1, .int r67]) (rest := []) (fun u9 => (kX3 cB cI gc me ba rg wa sm v_im v_ei v_ha v_hb v_cy v_by v_ct u9)) ⟨hx, hb, hml, hown, hws⟩ hK hP hD hS hA hT (c_X2_apply l D cI sm rg wa H.size b65 a1 r67) (cwV 2 hws (gw_V mw_298 mw_299 mw_300 mw_18 mw_301) rfl rfl rfl hdX2_apply ⟨Nat.le_of_ble_eq_true rfl, Nat.le_of_ble_eq_true rfl⟩) [5, 3, 4] [0, 1, 2] [1] [0, 1, 2, 4, 5, 3] rfl rfl rfl rfl (by decide) rfl (fun _ => rfl) rfl 5 rfl rfl rfl rfl hl.1 rfl (Nat.le_of_ble_eq_true rfl) dX3_executeLastQuarter_163 ⟨Nat.zero_le _, Nat.zero_le _⟩ (fun b68 H locs hw69 hP hD hS => ?_)
                have hP : va_P D vwCl (kX3 cB cI gc me ba rg wa sm v_im v_ei v_ha v_hb v_cy v_by v_ct b68) H := hP
                have hD : va_D A (kX3 cB cI gc me ba rg wa sm v_im v_ei v_ha v_hb v_cy v_by v_ct b68) := hD
                have hf := hf.trans (kE1 hw69)
                refine lv_iconst (v := 0) hx hb dX3_executeLastQuarter_166 (by decide) ?_
                rw [← hQ]
                exact W.iret (v := (0 : Int32)) hx hb hr (fun t ht hW => ⟨⟨(0 : Int32), (v_im, v_ei, v_by, v_ct, b68), rfl, hf.symm, by rw [ht]; exact hP, va_K.moved hW.alike hK, hD⟩, hS.F ht⟩) hS.2.2 dX3_executeLastQuarter_167
              · have hf := hf.trans (kf_eq c64)
                refine lv_tableOut (tgt := 168) hx hb dX3_executeLastQuarter_1 (by have n0 := lv_neT c1 (a := 0) rfl; have n1 := lv_neT c14 (a := 1) rfl; have n2 := lv_neT c18 (a := 2) rfl; have n3 := lv_neT c31 (a := 3) rfl; have n4 := lv_neT c43 (a := 4) rfl; have n5 := lv_neT c52 (a := 5) rfl; have n6 := lv_neT c64 (a := 6) rfl; omega) (by decide) ?_
                refine lv_aload_n hx hb dX3_executeLastQuarter_168 rfl (lv_at hl 0 rfl) ?_
                refine lv_aload_n hx hb dX3_executeLastQuarter_169 rfl (lv_at hl 0 rfl) ?_
                refine va_get (D := D) (ci := 3) (v := .ref rg) (C := RX3) (T := TX3) (N := 8) hx hb hws inlX3 hown hK hP 0 rfl rfl 1 (by decide) (hws _ mw_20) (fun _ h9 => h9) rfl dX3_executeLastQuarter_170 ?_
                refine lv_iconst (v := 5) hx hb dX3_executeLastQuarter_173 (by decide) ?_
                refine kc_Vi (wr := [(gc, .inr (3, [.ref me, .ref rg, .ref sm, .int (bI v_im), .int (bI v_ei), .int (bI v_ha), .int (bI v_hb), .int v_cy])), (me, .inr (0, [.ref ba, .int v_ct])), (ba, .inl (cB, 65536, .inl v_by)), (sm, .inr (2, [.ref rg]))]) (As := [.int (5 : Int32)]) (rest := [.ref gc]) (fun _ => (kX3 cB cI gc me ba rg wa sm v_im v_ei v_ha v_hb v_cy v_by v_ct v_wd)) ⟨hx, hb, hml, hown, hws⟩ hK hP hD hS hA hT (c_X1_word l D cI rg wa H.size v_wd (5 : Int32)) (cwV 1 hws (gw_V mw_123 mw_124 mw_125 mw_32 mw_126) rfl rfl rfl hdX1_word ⟨Nat.le_of_ble_eq_true rfl, Nat.le_of_ble_eq_true rfl⟩) [3, 4] [0, 1, 2, 5] [1] [0, 1, 2, 4, 5, 3] rfl rfl rfl rfl (by decide) rfl (fun _ => rfl) rfl 3 rfl rfl rfl rfl hl.1 rfl (Nat.le_of_ble_eq_true rfl) dX3_executeLastQuarter_174 ⟨Nat.zero_le _, Nat.zero_le _⟩ (fun r71 _ H locs hw70 hP hD hS => ?_)
                have hP : va_P D vwCl (kX3 cB cI gc me ba rg wa sm v_im v_ei v_ha v_hb v_cy v_by v_ct v_wd) H := hP
                have hD : va_D A (kX3 cB cI gc me ba rg wa sm v_im v_ei v_ha v_hb v_cy v_by v_ct v_wd) := hD
                have hf := hf.trans (kE1 hw70)
                refine kc_Vv (wr := []) (As := [.int r71]) (rest := []) (fun u9 => (kX3 cB cI gc me ba rg wa sm v_im v_ei v_ha v_hb v_cy (u9.1) (u9.2.1) (u9.2.2))) ⟨hx, hb, hml, hown, hws⟩ hK hP hD hS hA hT (c_X3_push l D cB cI gc me ba rg wa sm H.size v_im v_ei v_ha v_hb v_cy v_by v_ct v_wd r71) (cwV 1 hws (gw_V mw_127 mw_128 mw_129 mw_2 mw_130) rfl rfl rfl hdX3_push ⟨Nat.le_of_ble_eq_true rfl, Nat.le_of_ble_eq_true rfl⟩) [0, 1, 2, 3, 4, 5] [] [0, 1] [0, 1, 2, 3, 4, 5] rfl rfl rfl rfl (by decide) rfl (fun _ => rfl) rfl 0 rfl rfl rfl rfl hl.1 rfl (Nat.le_of_ble_eq_true rfl) dX3_executeLastQuarter_177 ⟨Nat.zero_le _, Nat.zero_le _⟩ (fun u9 H locs hw75 hP hD hS => ?_)
                obtain ⟨b72, b73, b74⟩ := u9
                have hP : va_P D vwCl (kX3 cB cI gc me ba rg wa sm v_im v_ei v_ha v_hb v_cy b72 b73 b74) H := hP
                have hD : va_D A (kX3 cB cI gc me ba rg wa sm v_im v_ei v_ha v_hb v_cy b72 b73 b74) := hD
                have hf := hf.trans (kE3 hw75)
                refine lv_aload_n hx hb dX3_executeLastQuarter_180 rfl (lv_at hl 0 rfl) ?_
                refine va_get (D := D) (ci := 3) (v := .ref rg) (C := RX3) (T := TX3) (N := 8) hx hb hws inlX3 hown hK hP 0 rfl rfl 1 (by decide) (hws _ mw_20) (fun _ h9 => h9) rfl dX3_executeLastQuarter_181 ?_
                refine lv_iconst (v := 5) hx hb dX3_executeLastQuarter_184 (by decide) ?_
                refine lv_bipush (v := 8) hx hb dX3_executeLastQuarter_185 (by decide) ?_
                refine lv_iload_n hx hb dX3_executeLastQuarter_187 rfl (lv_at hl 1 rfl) ?_
                refine lv_imul hx hb dX3_executeLastQuarter_188 ?_
                refine kc_Vi (wr := [(gc, .inr (3, [.ref me, .ref rg, .ref sm, .int (bI v_im), .int (bI v_ei), .int (bI v_ha), .int (bI v_hb), .int v_cy])), (me, .inr (0, [.ref ba, .int b73])), (ba, .inl (cB, 65536, .inl b72)), (sm, .inr (2, [.ref rg]))]) (As := [.int (5 : Int32), .int ((8 : Int32) * a1)]) (rest := []) (fun u9 => (kX3 cB cI gc me ba rg wa sm v_im v_ei v_ha v_hb v_cy b72 b73 u9)) ⟨hx, hb, hml, hown, hws⟩ hK hP hD hS hA hT (c_X1_setWord l D cI rg wa H.size b74 (5 : Int32) ((8 : Int32) * a1)) (cwV 2 hws (gw_V mw_137 mw_138 mw_139 mw_32 mw_140) rfl rfl rfl hdX1_setWord ⟨Nat.le_of_ble_eq_true rfl, Nat.le_of_ble_eq_true rfl⟩) [3, 4] [0, 1, 2, 5] [1] [0, 1, 2, 4, 5, 3] rfl rfl rfl rfl (by decide) rfl (fun _ => rfl) rfl 3 rfl rfl rfl rfl hl.1 rfl (Nat.le_of_ble_eq_true rfl) dX3_executeLastQuarter_189 ⟨Nat.zero_le _, Nat.zero_le _⟩ (fun r78 b76 H locs hw77 hP hD hS => ?_)
                obtain ⟨z79, rfl, hw77⟩ := hw77
                have hP : va_P D vwCl (kX3 cB cI gc me ba rg wa sm v_im v_ei v_ha v_hb v_cy b72 b73 b76) H := hP
                have hD : va_D A (kX3 cB cI gc me ba rg wa sm v_im v_ei v_ha v_hb v_cy b72 b73 b76) := hD
                have hf := hf.trans (kE2 hw77)
                refine lv_pop hx hb dX3_executeLastQuarter_192 rfl ?_
                refine lv_iconst (v := 0) hx hb dX3_executeLastQuarter_193 (by decide) ?_
                rw [← hQ]
                exact W.iret (v := (0 : Int32)) hx hb hr (fun t ht hW => ⟨⟨(0 : Int32), (v_im, v_ei, b72, b73, b76), rfl, hf.symm, by rw [ht]; exact hP, va_K.moved hW.alike hK, hD⟩, hS.F ht⟩) hS.2.2 dX3_executeLastQuarter_194
def fX3_execute (v_im : Bool) (v_ei : Bool) (v_ha : Bool) (v_hb : Bool) (v_by : Nat → Int32) (v_ct : Int32) (v_wd : Nat → Int32) (a1 : Int32) : Int32 × Bool × Bool × Bool × Bool × (Nat → Int32) × Int32 × (Nat → Int32) := (kU1 (((a1 >>> ((3 : Int32) &&& (31 : Int32))) &&& (7 : Int32))) (fun (x1 : Int32) => (kU1 ((a1 &&& (7 : Int32))) (fun (x2 : Int32) => (kIf (kEq a1 (118 : Int32)) (kU3 (fX3_halt v_im v_ei v_ha v_hb v_by v_wd) (fun (b35 : Bool) (b36 : Bool) (b37 : Nat → Int32) => ((0 : Int32), v_im, v_ei, b35, b36, v_by, v_ct, b37))) (kIf (kEq a1 (203 : Int32)) (kU4 (fX3_executeBitPage v_by v_ct v_wd) (fun (r34 : Int32) (b30 : Nat → Int32) (b31 : Int32) (b32 : Nat → Int32) => (r34, v_im, v_ei, v_ha, v_hb, b30, b31, b32))) (kIf (kEq (a1 >>> ((6 : Int32) &&& (31 : Int32))) (0 : Int32)) (kU4 (fX3_executeFirstQuarter v_by v_ct v_wd x1 x2) (fun (r10 : Int32) (b6 : Nat → Int32) (b7 : Int32) (b8 : Nat → Int32) => (r10, v_im, v_ei, v_ha, v_hb, b6, b7, b8))) (kIf (kEq (a1 >>> ((6 : Int32) &&& (31 : Int32))) (1 : Int32)) (kU1 (fX3_operand v_by v_wd x2) (fun (r13 : Int32) => (kU3 (fX3_setOperand v_by v_ct v_wd x1 r13) (fun (b14 : Nat → Int32) (b15 : Int32) (b16 : Nat → Int32) => ((0 : Int32), v_im, v_ei, v_ha, v_hb, b14, b15, b16))))) (kIf (kEq (a1 >>> ((6 : Int32) &&& (31 : Int32))) (2 : Int32)) (kU1 (fX3_operand v_by v_wd x2) (fun (r20 : Int32) => (kU1 (fX2_apply v_wd x1 r20) (fun (b21 : Nat → Int32) => ((0 : Int32), v_im, v_ei, v_ha, v_hb, v_by, v_ct, b21))))) (kU6 (fX3_executeLastQuarter v_im v_ei v_by v_ct v_wd x1 x2) (fun (r29 : Int32) (b23 : Bool) (b24 : Bool) (b25 : Nat → Int32) (b26 : Int32) (b27 : Nat → Int32) => (r29, b23, b24, v_ha, v_hb, b25, b26, b27))))))))))))
def rmX3_execute : Room := { frames := 4, cells := 0, slots := 0, locals := 95 }
def wwX3_execute : List Cond := Cond.code yX3_execute cX3_execute 4 (some .int) :: wsL_law
theorem hdX3_execute : yX3_execute.cls = RX3 ∧ yX3_execute.cls ≠ "java/lang/invoke/MethodHandle" ∧ yX3_execute.cls ≠ "java/lang/invoke/VarHandle" ∧ (parseMethodDescriptor yX3_execute.desc).map (fun d => d.parameters.length) = some 1 := by decide +kernel
set_option maxHeartbeats 4000000 in
set_option maxRecDepth 100000 in
theorem c_X3_execute (l : Launch) (D : va_G) (cB : ClassId) (cI : ClassId) (gc me ba rg wa sm sz : Nat) (v_im : Bool) (v_ei : Bool) (v_ha : Bool) (v_hb : Bool) (v_cy : Int32) (v_by : Nat → Int32) (v_ct : Int32) (v_wd : Nat → Int32) (a1 : Int32)  : Met l yX3_execute wwX3_execute rmX3_execute (va_Pc [.ref gc, .int a1] (kp D (kX3 cB cI gc me ba rg wa sm v_im v_ei v_ha v_hb v_cy v_by v_ct v_wd) [(cB, .byte), (cI, .int)] sz)) (va_Qi (fun (r : Int32) (u9 : Bool × Bool × Bool × Bool × (Nat → Int32) × Int32 × (Nat → Int32)) => (r, u9) = fX3_execute v_im v_ei v_ha v_hb v_by v_ct v_wd a1) (fun u9 t => kq D (kX3 cB cI gc me ba rg wa sm (u9.1) (u9.2.1) (u9.2.2.1) (u9.2.2.2.1) v_cy (u9.2.2.2.2.1) (u9.2.2.2.2.2.1) (u9.2.2.2.2.2.2)) [(cB, .byte), (cI, .int)] (va_A (kX3 cB cI gc me ba rg wa sm v_im v_ei v_ha v_hb v_cy v_by v_ct v_wd) sz) t) (va_A (kX3 cB cI gc me ba rg wa sm v_im v_ei v_ha v_hb v_cy v_by v_ct v_wd) sz)) 0 0 (va_A (kX3 cB cI gc me ba rg wa sm v_im v_ei v_ha v_hb v_cy v_by v_ct v_wd) sz) := by
  refine Met.ofW (cc := cX3_execute) (maxL := 4) (ret := (some .int)) (by decide) rfl ?_
  intro p e s m args below meth c s₁ B hml hv
  obtain ⟨rfl, hsz, hP, hK, hD0, hT⟩ := hv
  have hx := B.exec
  have hb := B.bytes
  have hr := B.returns
  have hts := atoms_spec (ws := wwX3_execute) B.pre
  have hws : ∀ w ∈ wsL_law, w.before _ s = true := fun w h => hts w (List.mem_cons_of_mem _ h)
  have hown : s.vm.findClass RX3 = some m.cls := findClass_of_methodNamed B.named
  have hlocks := B.notSynchronized
  subst hsz
  have hD := hD0.self (sz := s.heap.size)
  generalize hAe : va_A (kX3 cB cI gc me ba rg wa sm v_im v_ei v_ha v_hb v_cy v_by v_ct v_wd) s.heap.size = A at hD hT ⊢
  have hA : ∀ q : Nat, s.heap.size ≤ q → A q := fun q h => by rw [← hAe]; exact Or.inr h
  have hS : va_S A s.heap s.heap [] := va_S.rf
  have hl := lv_entry ([.ref gc, .int a1]) (n := 4) (Nat.le_of_ble_eq_true rfl)
  rw [lg_entry_eq]
  generalize (lg_sl ([.ref gc, .int a1]) ++ List.replicate (4 - (lg_sl ([.ref gc, .int a1])).length) Slot.unset).toArray = ls at hl ⊢
  have hl : lv_has ls 4 [(0, .ref gc), (1, .int a1)] := hl
  generalize hQ : MQ _ _ _ _ _ _ _ = Q
  obtain ⟨H, hHe⟩ : ∃ H : Heap, H = s.heap := ⟨_, rfl⟩
  obtain ⟨locs, hle⟩ : ∃ L : List Loc, L = [] := ⟨_, rfl⟩
  have hP : va_P D vwCl (kX3 cB cI gc me ba rg wa sm v_im v_ei v_ha v_hb v_cy v_by v_ct v_wd) H := by rw [hHe]; exact hP
  have hS : va_S A s.heap H locs := by rw [hHe, hle]; exact hS
  refine kw_start hHe.symm hle.symm ?_
  have hf : fX3_execute v_im v_ei v_ha v_hb v_by v_ct v_wd a1 = fX3_execute v_im v_ei v_ha v_hb v_by v_ct v_wd a1 := rfl
  refine lv_iload_n hx hb dX3_execute_0 rfl (lv_at hl 1 rfl) ?_
  refine lv_iconst (v := 3) hx hb dX3_execute_1 (by decide) ?_
  refine lv_ishr hx hb dX3_execute_2 ?_
  refine lv_bipush (v := 7) hx hb dX3_execute_3 (by decide) ?_
  refine lv_iand hx hb dX3_execute_5 ?_
  refine lv_topi (fun x1 ex1 => ?_)
  have hf := hf.trans (kE1 ex1)
  refine lv_istore_n (lv' := [(2, .int x1), (0, .ref gc), (1, .int a1)]) hx hb dX3_execute_6 rfl hl (by decide) rfl (fun ls hl => ?_)
  refine lv_iload_n hx hb dX3_execute_7 rfl (lv_at hl 2 rfl) ?_
  refine lv_bipush (v := 7) hx hb dX3_execute_8 (by decide) ?_
  refine lv_iand hx hb dX3_execute_10 ?_
  refine lv_topi (fun x2 ex2 => ?_)
  have hf := hf.trans (kE1 ex2)
  refine lv_istore_n (lv' := [(3, .int x2), (2, .int x1), (0, .ref gc), (1, .int a1)]) hx hb dX3_execute_11 rfl hl (by decide) rfl (fun ls hl => ?_)
  refine lv_iload_n hx hb dX3_execute_12 rfl (lv_at hl 3 rfl) ?_
  refine lv_bipush (v := 118) hx hb dX3_execute_13 (by decide) ?_
  refine lv_icmp_ne (tgt := 24) hx hb dX3_execute_15 (by decide) (fun c3 => ?_) (fun c3 => ?_)
  · have hf := hf.trans (kf_eq c3)
    refine lv_iload_n hx hb dX3_execute_24 rfl (lv_at hl 3 rfl) ?_
    refine lv_sipush (v := 203) hx hb dX3_execute_25 (by decide) ?_
    refine lv_icmp_ne (tgt := 36) hx hb dX3_execute_28 (by decide) (fun c4 => ?_) (fun c4 => ?_)
    · have hf := hf.trans (kf_eq c4)
      refine lv_iload_n hx hb dX3_execute_36 rfl (lv_at hl 3 rfl) ?_
      refine lv_bipush (v := 6) hx hb dX3_execute_37 (by decide) ?_
      refine lv_ishr hx hb dX3_execute_39 ?_
      by_cases c5 : (a1 >>> ((6 : Int32) &&& (31 : Int32))) = (0 : Int32)
      · have hf := hf.trans (kt_eq c5)
        refine lv_tableIn (off := 28) (tgt := 68) hx hb dX3_execute_40 (by rw [c5]; decide) (by rw [c5]; decide) (by rw [c5]; decide) (by decide) ?_
        refine lv_aload_n hx hb dX3_execute_68 rfl (lv_at hl 2 rfl) ?_
        refine lv_iload_n hx hb dX3_execute_69 rfl (lv_at hl 1 rfl) ?_
        refine lv_iload_n hx hb dX3_execute_70 rfl (lv_at hl 0 rfl) ?_
        refine kc_Vi (wr := []) (As := [.int x1, .int x2]) (rest := []) (fun u9 => (kX3 cB cI gc me ba rg wa sm v_im v_ei v_ha v_hb v_cy (u9.1) (u9.2.1) (u9.2.2))) ⟨hx, hb, hml, hown, hws⟩ hK hP hD hS hA hT (c_X3_executeFirstQuarter l D cB cI gc me ba rg wa sm H.size v_im v_ei v_ha v_hb v_cy v_by v_ct v_wd x1 x2) (cwV 2 hws (gw_V mw_227 mw_228 mw_229 mw_2 mw_230) rfl rfl rfl hdX3_executeFirstQuarter ⟨Nat.le_of_ble_eq_true rfl, Nat.le_of_ble_eq_true rfl⟩) [0, 1, 2, 3, 4, 5] [] [0, 1] [0, 1, 2, 3, 4, 5] rfl rfl rfl rfl (by decide) rfl (fun _ => rfl) rfl 0 rfl rfl rfl rfl hl.1 rfl (Nat.le_of_ble_eq_true rfl) dX3_execute_71 ⟨Nat.zero_le _, Nat.zero_le _⟩ (fun r10 u9 H locs hw9 hP hD hS => ?_)
        obtain ⟨b6, b7, b8⟩ := u9
        have hP : va_P D vwCl (kX3 cB cI gc me ba rg wa sm v_im v_ei v_ha v_hb v_cy b6 b7 b8) H := hP
        have hD : va_D A (kX3 cB cI gc me ba rg wa sm v_im v_ei v_ha v_hb v_cy b6 b7 b8) := hD
        have hf := hf.trans (kE4 hw9)
        rw [← hQ]
        exact W.iret (v := r10) hx hb hr (fun t ht hW => ⟨⟨r10, (v_im, v_ei, v_ha, v_hb, b6, b7, b8), rfl, hf.symm, by rw [ht]; exact hP, va_K.moved hW.alike hK, hD⟩, hS.F ht⟩) hS.2.2 dX3_execute_74
      · have hf := hf.trans (kf_eq c5)
        by_cases c11 : (a1 >>> ((6 : Int32) &&& (31 : Int32))) = (1 : Int32)
        · have hf := hf.trans (kt_eq c11)
          refine lv_tableIn (off := 35) (tgt := 75) hx hb dX3_execute_40 (by rw [c11]; decide) (by rw [c11]; decide) (by rw [c11]; decide) (by decide) ?_
          refine lv_aload_n hx hb dX3_execute_75 rfl (lv_at hl 2 rfl) ?_
          refine lv_iload_n hx hb dX3_execute_76 rfl (lv_at hl 1 rfl) ?_
          refine lv_aload_n hx hb dX3_execute_77 rfl (lv_at hl 2 rfl) ?_
          refine lv_iload_n hx hb dX3_execute_78 rfl (lv_at hl 0 rfl) ?_
          refine kc_Vi (wr := []) (As := [.int x2]) (rest := [.int x1, .ref gc]) (fun _ => (kX3 cB cI gc me ba rg wa sm v_im v_ei v_ha v_hb v_cy v_by v_ct v_wd)) ⟨hx, hb, hml, hown, hws⟩ hK hP hD hS hA hT (c_X3_operand l D cB cI gc me ba rg wa sm H.size v_im v_ei v_ha v_hb v_cy v_by v_ct v_wd x2) (cwV 1 hws (gw_V mw_185 mw_186 mw_187 mw_2 mw_188) rfl rfl rfl hdX3_operand ⟨Nat.le_of_ble_eq_true rfl, Nat.le_of_ble_eq_true rfl⟩) [0, 1, 2, 3, 4, 5] [] [0, 1] [0, 1, 2, 3, 4, 5] rfl rfl rfl rfl (by decide) rfl (fun _ => rfl) rfl 0 rfl rfl rfl rfl hl.1 rfl (Nat.le_of_ble_eq_true rfl) dX3_execute_79 ⟨Nat.zero_le _, Nat.zero_le _⟩ (fun r13 _ H locs hw12 hP hD hS => ?_)
          have hP : va_P D vwCl (kX3 cB cI gc me ba rg wa sm v_im v_ei v_ha v_hb v_cy v_by v_ct v_wd) H := hP
          have hD : va_D A (kX3 cB cI gc me ba rg wa sm v_im v_ei v_ha v_hb v_cy v_by v_ct v_wd) := hD
          have hf := hf.trans (kE1 hw12)
          refine kc_Vv (wr := []) (As := [.int x1, .int r13]) (rest := []) (fun u9 => (kX3 cB cI gc me ba rg wa sm v_im v_ei v_ha v_hb v_cy (u9.1) (u9.2.1) (u9.2.2))) ⟨hx, hb, hml, hown, hws⟩ hK hP hD hS hA hT (c_X3_setOperand l D cB cI gc me ba rg wa sm H.size v_im v_ei v_ha v_hb v_cy v_by v_ct v_wd x1 r13) (cwV 2 hws (gw_V mw_215 mw_216 mw_217 mw_2 mw_218) rfl rfl rfl hdX3_setOperand ⟨Nat.le_of_ble_eq_true rfl, Nat.le_of_ble_eq_true rfl⟩) [0, 1, 2, 3, 4, 5] [] [0, 1] [0, 1, 2, 3, 4, 5] rfl rfl rfl rfl (by decide) rfl (fun _ => rfl) rfl 0 rfl rfl rfl rfl hl.1 rfl (Nat.le_of_ble_eq_true rfl) dX3_execute_82 ⟨Nat.zero_le _, Nat.zero_le _⟩ (fun u9 H locs hw17 hP hD hS => ?_)
          obtain ⟨b14, b15, b16⟩ := u9
          have hP : va_P D vwCl (kX3 cB cI gc me ba rg wa sm v_im v_ei v_ha v_hb v_cy b14 b15 b16) H := hP
          have hD : va_D A (kX3 cB cI gc me ba rg wa sm v_im v_ei v_ha v_hb v_cy b14 b15 b16) := hD
          have hf := hf.trans (kE3 hw17)
          refine lv_iconst (v := 0) hx hb dX3_execute_85 (by decide) ?_
          rw [← hQ]
          exact W.iret (v := (0 : Int32)) hx hb hr (fun t ht hW => ⟨⟨(0 : Int32), (v_im, v_ei, v_ha, v_hb, b14, b15, b16), rfl, hf.symm, by rw [ht]; exact hP, va_K.moved hW.alike hK, hD⟩, hS.F ht⟩) hS.2.2 dX3_execute_86
        · have hf := hf.trans (kf_eq c11)
          by_cases c18 : (a1 >>> ((6 : Int32) &&& (31 : Int32))) = (2 : Int32)
          · have hf := hf.trans (kt_eq c18)
            refine lv_tableIn (off := 47) (tgt := 87) hx hb dX3_execute_40 (by rw [c18]; decide) (by rw [c18]; decide) (by rw [c18]; decide) (by decide) ?_
            refine lv_aload_n hx hb dX3_execute_87 rfl (lv_at hl 2 rfl) ?_
            refine va_get (D := D) (ci := 3) (v := .ref sm) (C := RX3) (T := TX3) (N := 8) hx hb hws inlX3 hown hK hP 0 rfl rfl 2 (by decide) (hws _ mw_19) (fun _ h9 => h9) rfl dX3_execute_88 ?_
            refine lv_iload_n hx hb dX3_execute_91 rfl (lv_at hl 1 rfl) ?_
            refine lv_aload_n hx hb dX3_execute_92 rfl (lv_at hl 2 rfl) ?_
            refine lv_iload_n hx hb dX3_execute_93 rfl (lv_at hl 0 rfl) ?_
            refine kc_Vi (wr := []) (As := [.int x2]) (rest := [.int x1, .ref sm]) (fun _ => (kX3 cB cI gc me ba rg wa sm v_im v_ei v_ha v_hb v_cy v_by v_ct v_wd)) ⟨hx, hb, hml, hown, hws⟩ hK hP hD hS hA hT (c_X3_operand l D cB cI gc me ba rg wa sm H.size v_im v_ei v_ha v_hb v_cy v_by v_ct v_wd x2) (cwV 1 hws (gw_V mw_185 mw_186 mw_187 mw_2 mw_188) rfl rfl rfl hdX3_operand ⟨Nat.le_of_ble_eq_true rfl, Nat.le_of_ble_eq_true rfl⟩) [0, 1, 2, 3, 4, 5] [] [0, 1] [0, 1, 2, 3, 4, 5] rfl rfl rfl rfl (by decide) rfl (fun _ => rfl) rfl 0 rfl rfl rfl rfl hl.1 rfl (Nat.le_of_ble_eq_true rfl) dX3_execute_94 ⟨Nat.zero_le _, Nat.zero_le _⟩ (fun r20 _ H locs hw19 hP hD hS => ?_)
            have hP : va_P D vwCl (kX3 cB cI gc me ba rg wa sm v_im v_ei v_ha v_hb v_cy v_by v_ct v_wd) H := hP
            have hD : va_D A (kX3 cB cI gc me ba rg wa sm v_im v_ei v_ha v_hb v_cy v_by v_ct v_wd) := hD
            have hf := hf.trans (kE1 hw19)
            refine kc_Vv (wr := [(gc, .inr (3, [.ref me, .ref rg, .ref sm, .int (bI v_im), .int (bI v_ei), .int (bI v_ha), .int (bI v_hb), .int v_cy])), (me, .inr (0, [.ref ba, .int v_ct])), (ba, .inl (cB, 65536, .inl v_by))]) (As := [.int x1, .int r20]) (rest := []) (fun u9 => (kX3 cB cI gc me ba rg wa sm v_im v_ei v_ha v_hb v_cy v_by v_ct u9)) ⟨hx, hb, hml, hown, hws⟩ hK hP hD hS hA hT (c_X2_apply l D cI sm rg wa H.size v_wd x1 r20) (cwV 2 hws (gw_V mw_298 mw_299 mw_300 mw_18 mw_301) rfl rfl rfl hdX2_apply ⟨Nat.le_of_ble_eq_true rfl, Nat.le_of_ble_eq_true rfl⟩) [5, 3, 4] [0, 1, 2] [1] [0, 1, 2, 4, 5, 3] rfl rfl rfl rfl (by decide) rfl (fun _ => rfl) rfl 5 rfl rfl rfl rfl hl.1 rfl (Nat.le_of_ble_eq_true rfl) dX3_execute_97 ⟨Nat.zero_le _, Nat.zero_le _⟩ (fun b21 H locs hw22 hP hD hS => ?_)
            have hP : va_P D vwCl (kX3 cB cI gc me ba rg wa sm v_im v_ei v_ha v_hb v_cy v_by v_ct b21) H := hP
            have hD : va_D A (kX3 cB cI gc me ba rg wa sm v_im v_ei v_ha v_hb v_cy v_by v_ct b21) := hD
            have hf := hf.trans (kE1 hw22)
            refine lv_iconst (v := 0) hx hb dX3_execute_100 (by decide) ?_
            rw [← hQ]
            exact W.iret (v := (0 : Int32)) hx hb hr (fun t ht hW => ⟨⟨(0 : Int32), (v_im, v_ei, v_ha, v_hb, v_by, v_ct, b21), rfl, hf.symm, by rw [ht]; exact hP, va_K.moved hW.alike hK, hD⟩, hS.F ht⟩) hS.2.2 dX3_execute_101
          · have hf := hf.trans (kf_eq c18)
            refine lv_tableOut (tgt := 102) hx hb dX3_execute_40 (by have n0 := lv_neT c5 (a := 0) rfl; have n1 := lv_neT c11 (a := 1) rfl; have n2 := lv_neT c18 (a := 2) rfl; omega) (by decide) ?_
            refine lv_aload_n hx hb dX3_execute_102 rfl (lv_at hl 2 rfl) ?_
            refine lv_iload_n hx hb dX3_execute_103 rfl (lv_at hl 1 rfl) ?_
            refine lv_iload_n hx hb dX3_execute_104 rfl (lv_at hl 0 rfl) ?_
            refine kc_Vi (wr := []) (As := [.int x1, .int x2]) (rest := []) (fun u9 => (kX3 cB cI gc me ba rg wa sm (u9.1) (u9.2.1) v_ha v_hb v_cy (u9.2.2.1) (u9.2.2.2.1) (u9.2.2.2.2))) ⟨hx, hb, hml, hown, hws⟩ hK hP hD hS hA hT (c_X3_executeLastQuarter l D cB cI gc me ba rg wa sm H.size v_im v_ei v_ha v_hb v_cy v_by v_ct v_wd x1 x2) (cwV 2 hws (gw_V mw_314 mw_315 mw_316 mw_2 mw_317) rfl rfl rfl hdX3_executeLastQuarter ⟨Nat.le_of_ble_eq_true rfl, Nat.le_of_ble_eq_true rfl⟩) [0, 1, 2, 3, 4, 5] [] [0, 1] [0, 1, 2, 3, 4, 5] rfl rfl rfl rfl (by decide) rfl (fun _ => rfl) rfl 0 rfl rfl rfl rfl hl.1 rfl (Nat.le_of_ble_eq_true rfl) dX3_execute_105 ⟨Nat.zero_le _, Nat.zero_le _⟩ (fun r29 u9 H locs hw28 hP hD hS => ?_)
            obtain ⟨b23, b24, b25, b26, b27⟩ := u9
            have hP : va_P D vwCl (kX3 cB cI gc me ba rg wa sm b23 b24 v_ha v_hb v_cy b25 b26 b27) H := hP
            have hD : va_D A (kX3 cB cI gc me ba rg wa sm b23 b24 v_ha v_hb v_cy b25 b26 b27) := hD
            have hf := hf.trans (kE6 hw28)
            rw [← hQ]
            exact W.iret (v := r29) hx hb hr (fun t ht hW => ⟨⟨r29, (b23, b24, v_ha, v_hb, b25, b26, b27), rfl, hf.symm, by rw [ht]; exact hP, va_K.moved hW.alike hK, hD⟩, hS.F ht⟩) hS.2.2 dX3_execute_108
    · have hf := hf.trans (kt_eq c4)
      refine lv_aload_n hx hb dX3_execute_31 rfl (lv_at hl 2 rfl) ?_
      refine kc_Vi (wr := []) (As := []) (rest := []) (fun u9 => (kX3 cB cI gc me ba rg wa sm v_im v_ei v_ha v_hb v_cy (u9.1) (u9.2.1) (u9.2.2))) ⟨hx, hb, hml, hown, hws⟩ hK hP hD hS hA hT (c_X3_executeBitPage l D cB cI gc me ba rg wa sm H.size v_im v_ei v_ha v_hb v_cy v_by v_ct v_wd ) (cwV 0 hws (gw_V mw_177 mw_178 mw_179 mw_2 mw_180) rfl rfl rfl hdX3_executeBitPage ⟨Nat.le_of_ble_eq_true rfl, Nat.le_of_ble_eq_true rfl⟩) [0, 1, 2, 3, 4, 5] [] [0, 1] [0, 1, 2, 3, 4, 5] rfl rfl rfl rfl (by decide) rfl (fun _ => rfl) rfl 0 rfl rfl rfl rfl hl.1 rfl (Nat.le_of_ble_eq_true rfl) dX3_execute_32 ⟨Nat.zero_le _, Nat.zero_le _⟩ (fun r34 u9 H locs hw33 hP hD hS => ?_)
      obtain ⟨b30, b31, b32⟩ := u9
      have hP : va_P D vwCl (kX3 cB cI gc me ba rg wa sm v_im v_ei v_ha v_hb v_cy b30 b31 b32) H := hP
      have hD : va_D A (kX3 cB cI gc me ba rg wa sm v_im v_ei v_ha v_hb v_cy b30 b31 b32) := hD
      have hf := hf.trans (kE4 hw33)
      rw [← hQ]
      exact W.iret (v := r34) hx hb hr (fun t ht hW => ⟨⟨r34, (v_im, v_ei, v_ha, v_hb, b30, b31, b32), rfl, hf.symm, by rw [ht]; exact hP, va_K.moved hW.alike hK, hD⟩, hS.F ht⟩) hS.2.2 dX3_execute_35
  · have hf := hf.trans (kt_eq c3)
    refine lv_aload_n hx hb dX3_execute_18 rfl (lv_at hl 2 rfl) ?_
    refine kc_Vv (wr := []) (As := []) (rest := []) (fun u9 => (kX3 cB cI gc me ba rg wa sm v_im v_ei (u9.1) (u9.2.1) v_cy v_by v_ct (u9.2.2))) ⟨hx, hb, hml, hown, hws⟩ hK hP hD hS hA hT (c_X3_halt l D cB cI gc me ba rg wa sm H.size v_im v_ei v_ha v_hb v_cy v_by v_ct v_wd ) (cwV 0 hws (gw_V mw_173 mw_174 mw_175 mw_2 mw_176) rfl rfl rfl hdX3_halt ⟨Nat.le_of_ble_eq_true rfl, Nat.le_of_ble_eq_true rfl⟩) [0, 1, 2, 3, 4, 5] [] [0, 1] [0, 1, 2, 3, 4, 5] rfl rfl rfl rfl (by decide) rfl (fun _ => rfl) rfl 0 rfl rfl rfl rfl hl.1 rfl (Nat.le_of_ble_eq_true rfl) dX3_execute_19 ⟨Nat.zero_le _, Nat.zero_le _⟩ (fun u9 H locs hw38 hP hD hS => ?_)
    obtain ⟨b35, b36, b37⟩ := u9
    have hP : va_P D vwCl (kX3 cB cI gc me ba rg wa sm v_im v_ei b35 b36 v_cy v_by v_ct b37) H := hP
    have hD : va_D A (kX3 cB cI gc me ba rg wa sm v_im v_ei b35 b36 v_cy v_by v_ct b37) := hD
    have hf := hf.trans (kE3 hw38)
    refine lv_iconst (v := 0) hx hb dX3_execute_22 (by decide) ?_
    rw [← hQ]
    exact W.iret (v := (0 : Int32)) hx hb hr (fun t ht hW => ⟨⟨(0 : Int32), (v_im, v_ei, b35, b36, v_by, v_ct, b37), rfl, hf.symm, by rw [ht]; exact hP, va_K.moved hW.alike hK, hD⟩, hS.F ht⟩) hS.2.2 dX3_execute_23
def fX3_takeStep (v_im : Bool) (v_ei : Bool) (v_ha : Bool) (v_hb : Bool) (v_cy : Int32) (v_by : Nat → Int32) (v_ct : Int32) (v_wd : Nat → Int32)  : Int32 × Bool × Bool × Bool × Bool × Int32 × (Nat → Int32) × Int32 × (Nat → Int32) := (kU1 (fX0_pending v_by) (fun (r2 : Int32) => (kIf (kEq (bI v_im) (0 : Int32)) (kIf (kEq (bI v_ha) (0 : Int32)) (kU1 (fX1_word v_wd (5 : Int32)) (fun (r6 : Int32) => (kU1 (fX0_at v_by r6) (fun (r8 : Int32) => (kU1 ((tb_base (r8 &&& (255 : Int32)).toNatClampNeg)) (fun (x9 : Int32) => (kIf (kEq x9 (0 : Int32)) ((2 : Int32), v_im, v_ei, v_ha, v_hb, v_cy, v_by, v_ct, v_wd) (kU2 (fX3_leaveOpcode v_hb v_wd) (fun (b11 : Bool) (b12 : Nat → Int32) => (kU8 (fX3_execute v_im v_ei false b11 v_by v_ct b12 r8) (fun (r22 : Int32) (b14 : Bool) (b15 : Bool) (b16 : Bool) (b17 : Bool) (b18 : Nat → Int32) (b19 : Int32) (b20 : Nat → Int32) => (kU2 (((kIf (kEq (bI v_ei) (0 : Int32)) (b14, b15) (kIf (kEq r8 (243 : Int32)) (b14, b15) (true, false))) : Bool × Bool)) (fun (b25 : Bool) (b26 : Bool) => (kU3 (fX3_pass v_cy b18 b19 (x9 + r22)) (fun (b28 : Int32) (b29 : Nat → Int32) (b30 : Int32) => ((0 : Int32), b25, b26, b16, b17, b28, b29, b30, b20)))))))))))))))) (kIf (kEq r2 (0 : Int32)) (kU3 (fX3_pass v_cy v_by v_ct (1 : Int32)) (fun (b60 : Int32) (b61 : Nat → Int32) (b62 : Int32) => ((1 : Int32), v_im, v_ei, v_ha, v_hb, b60, b61, b62, v_wd))) (kU1 (fX1_word v_wd (5 : Int32)) (fun (r34 : Int32) => (kU1 (fX0_at v_by r34) (fun (r36 : Int32) => (kU1 ((tb_base (r36 &&& (255 : Int32)).toNatClampNeg)) (fun (x37 : Int32) => (kIf (kEq x37 (0 : Int32)) ((2 : Int32), v_im, v_ei, v_ha, v_hb, v_cy, v_by, v_ct, v_wd) (kU2 (fX3_leaveOpcode v_hb v_wd) (fun (b39 : Bool) (b40 : Nat → Int32) => (kU8 (fX3_execute v_im v_ei false b39 v_by v_ct b40 r36) (fun (r50 : Int32) (b42 : Bool) (b43 : Bool) (b44 : Bool) (b45 : Bool) (b46 : Nat → Int32) (b47 : Int32) (b48 : Nat → Int32) => (kU2 (((kIf (kEq (bI v_ei) (0 : Int32)) (b42, b43) (kIf (kEq r36 (243 : Int32)) (b42, b43) (true, false))) : Bool × Bool)) (fun (b53 : Bool) (b54 : Bool) => (kU3 (fX3_pass v_cy b46 b47 (x37 + r50)) (fun (b56 : Int32) (b57 : Nat → Int32) (b58 : Int32) => ((0 : Int32), b53, b54, b44, b45, b56, b57, b58, b48)))))))))))))))))) (kIf (kEq r2 (0 : Int32)) (kIf (kEq (bI v_ha) (0 : Int32)) (kU1 (fX1_word v_wd (5 : Int32)) (fun (r67 : Int32) => (kU1 (fX0_at v_by r67) (fun (r69 : Int32) => (kU1 ((tb_base (r69 &&& (255 : Int32)).toNatClampNeg)) (fun (x70 : Int32) => (kIf (kEq x70 (0 : Int32)) ((2 : Int32), v_im, v_ei, v_ha, v_hb, v_cy, v_by, v_ct, v_wd) (kU2 (fX3_leaveOpcode v_hb v_wd) (fun (b72 : Bool) (b73 : Nat → Int32) => (kU8 (fX3_execute v_im v_ei false b72 v_by v_ct b73 r69) (fun (r83 : Int32) (b75 : Bool) (b76 : Bool) (b77 : Bool) (b78 : Bool) (b79 : Nat → Int32) (b80 : Int32) (b81 : Nat → Int32) => (kU2 (((kIf (kEq (bI v_ei) (0 : Int32)) (b75, b76) (kIf (kEq r69 (243 : Int32)) (b75, b76) (true, false))) : Bool × Bool)) (fun (b86 : Bool) (b87 : Bool) => (kU3 (fX3_pass v_cy b79 b80 (x70 + r83)) (fun (b89 : Int32) (b90 : Nat → Int32) (b91 : Int32) => ((0 : Int32), b86, b87, b77, b78, b89, b90, b91, b81)))))))))))))))) (kIf (kEq r2 (0 : Int32)) (kU3 (fX3_pass v_cy v_by v_ct (1 : Int32)) (fun (b121 : Int32) (b122 : Nat → Int32) (b123 : Int32) => ((1 : Int32), v_im, v_ei, v_ha, v_hb, b121, b122, b123, v_wd))) (kU1 (fX1_word v_wd (5 : Int32)) (fun (r95 : Int32) => (kU1 (fX0_at v_by r95) (fun (r97 : Int32) => (kU1 ((tb_base (r97 &&& (255 : Int32)).toNatClampNeg)) (fun (x98 : Int32) => (kIf (kEq x98 (0 : Int32)) ((2 : Int32), v_im, v_ei, v_ha, v_hb, v_cy, v_by, v_ct, v_wd) (kU2 (fX3_leaveOpcode v_hb v_wd) (fun (b100 : Bool) (b101 : Nat → Int32) => (kU8 (fX3_execute v_im v_ei false b100 v_by v_ct b101 r97) (fun (r111 : Int32) (b103 : Bool) (b104 : Bool) (b105 : Bool) (b106 : Bool) (b107 : Nat → Int32) (b108 : Int32) (b109 : Nat → Int32) => (kU2 (((kIf (kEq (bI v_ei) (0 : Int32)) (b103, b104) (kIf (kEq r97 (243 : Int32)) (b103, b104) (true, false))) : Bool × Bool)) (fun (b114 : Bool) (b115 : Bool) => (kU3 (fX3_pass v_cy b107 b108 (x98 + r111)) (fun (b117 : Int32) (b118 : Nat → Int32) (b119 : Int32) => ((0 : Int32), b114, b115, b105, b106, b117, b118, b119, b109)))))))))))))))))) (kU5 (fX3_dispatch v_im v_ha v_by v_ct v_wd r2) (fun (b125 : Bool) (b126 : Bool) (b127 : Nat → Int32) (b128 : Int32) (b129 : Nat → Int32) => (kU3 (fX3_pass v_cy b127 b128 (5 : Int32)) (fun (b131 : Int32) (b132 : Nat → Int32) (b133 : Int32) => ((0 : Int32), b125, v_ei, b126, v_hb, b131, b132, b133, b129)))))))))
def rmX3_takeStep : Room := { frames := 5, cells := 0, slots := 0, locals := 118 }
def wwX3_takeStep : List Cond := Cond.code yX3_takeStep cX3_takeStep 6 (some .int) :: wsL_law
theorem hdX3_takeStep : yX3_takeStep.cls = RX3 ∧ yX3_takeStep.cls ≠ "java/lang/invoke/MethodHandle" ∧ yX3_takeStep.cls ≠ "java/lang/invoke/VarHandle" ∧ (parseMethodDescriptor yX3_takeStep.desc).map (fun d => d.parameters.length) = some 0 := by decide +kernel
set_option maxHeartbeats 4000000 in
set_option maxRecDepth 100000 in
theorem c_X3_takeStep (l : Launch) (D : va_G) (cB : ClassId) (cI : ClassId) (gc me ba rg wa sm sz : Nat) (v_im : Bool) (v_ei : Bool) (v_ha : Bool) (v_hb : Bool) (v_cy : Int32) (v_by : Nat → Int32) (v_ct : Int32) (v_wd : Nat → Int32)   : Met l yX3_takeStep wwX3_takeStep rmX3_takeStep (va_Pc [.ref gc] (kp D (kX3 cB cI gc me ba rg wa sm v_im v_ei v_ha v_hb v_cy v_by v_ct v_wd) [(cB, .byte), (cI, .int)] sz)) (va_Qi (fun (r : Int32) (u9 : Bool × Bool × Bool × Bool × Int32 × (Nat → Int32) × Int32 × (Nat → Int32)) => (r, u9) = fX3_takeStep v_im v_ei v_ha v_hb v_cy v_by v_ct v_wd) (fun u9 t => kq D (kX3 cB cI gc me ba rg wa sm (u9.1) (u9.2.1) (u9.2.2.1) (u9.2.2.2.1) (u9.2.2.2.2.1) (u9.2.2.2.2.2.1) (u9.2.2.2.2.2.2.1) (u9.2.2.2.2.2.2.2)) [(cB, .byte), (cI, .int)] (va_A (kX3 cB cI gc me ba rg wa sm v_im v_ei v_ha v_hb v_cy v_by v_ct v_wd) sz) t) (va_A (kX3 cB cI gc me ba rg wa sm v_im v_ei v_ha v_hb v_cy v_by v_ct v_wd) sz)) 0 0 (va_A (kX3 cB cI gc me ba rg wa sm v_im v_ei v_ha v_hb v_cy v_by v_ct v_wd) sz) := by
  refine Met.ofW (cc := cX3_takeStep) (maxL := 6) (ret := (some .int)) (by decide) rfl ?_
  intro p e s m args below meth c s₁ B hml hv
  obtain ⟨rfl, hsz, hP, hK, hD0, hT⟩ := hv
  have hx := B.exec
  have hb := B.bytes
  have hr := B.returns
  have hts := atoms_spec (ws := wwX3_takeStep) B.pre
  have hws : ∀ w ∈ wsL_law, w.before _ s = true := fun w h => hts w (List.mem_cons_of_mem _ h)
  have hown : s.vm.findClass RX3 = some m.cls := findClass_of_methodNamed B.named
  have hlocks := B.notSynchronized
  subst hsz
  have hD := hD0.self (sz := s.heap.size)
  generalize hAe : va_A (kX3 cB cI gc me ba rg wa sm v_im v_ei v_ha v_hb v_cy v_by v_ct v_wd) s.heap.size = A at hD hT ⊢
  have hA : ∀ q : Nat, s.heap.size ≤ q → A q := fun q h => by rw [← hAe]; exact Or.inr h
  have hS : va_S A s.heap s.heap [] := va_S.rf
  have hl := lv_entry ([.ref gc]) (n := 6) (Nat.le_of_ble_eq_true rfl)
  rw [lg_entry_eq]
  generalize (lg_sl ([.ref gc]) ++ List.replicate (6 - (lg_sl ([.ref gc])).length) Slot.unset).toArray = ls at hl ⊢
  have hl : lv_has ls 6 [(0, .ref gc)] := hl
  generalize hQ : MQ _ _ _ _ _ _ _ = Q
  obtain ⟨H, hHe⟩ : ∃ H : Heap, H = s.heap := ⟨_, rfl⟩
  obtain ⟨locs, hle⟩ : ∃ L : List Loc, L = [] := ⟨_, rfl⟩
  have hP : va_P D vwCl (kX3 cB cI gc me ba rg wa sm v_im v_ei v_ha v_hb v_cy v_by v_ct v_wd) H := by rw [hHe]; exact hP
  have hS : va_S A s.heap H locs := by rw [hHe, hle]; exact hS
  refine kw_start hHe.symm hle.symm ?_
  have hf : fX3_takeStep v_im v_ei v_ha v_hb v_cy v_by v_ct v_wd = fX3_takeStep v_im v_ei v_ha v_hb v_cy v_by v_ct v_wd := rfl
  refine lv_aload_n hx hb dX3_takeStep_0 rfl (lv_at hl 0 rfl) ?_
  refine va_get (D := D) (ci := 3) (v := .ref me) (C := RX3) (T := TX3) (N := 8) hx hb hws inlX3 hown hK hP 0 rfl rfl 0 (by decide) (hws _ mw_15) (fun _ h9 => h9) rfl dX3_takeStep_1 ?_
  refine kc_Vi (wr := [(gc, .inr (3, [.ref me, .ref rg, .ref sm, .int (bI v_im), .int (bI v_ei), .int (bI v_ha), .int (bI v_hb), .int v_cy])), (rg, .inr (1, [.ref wa])), (wa, .inl (cI, 6, .inl v_wd)), (sm, .inr (2, [.ref rg]))]) (As := []) (rest := []) (fun _ => (kX3 cB cI gc me ba rg wa sm v_im v_ei v_ha v_hb v_cy v_by v_ct v_wd)) ⟨hx, hb, hml, hown, hws⟩ hK hP hD hS hA hT (c_X0_pending l D cB me ba H.size v_by v_ct ) (cwV 0 hws (gw_V mw_109 mw_110 mw_111 mw_14 mw_112) rfl rfl rfl hdX0_pending ⟨Nat.le_of_ble_eq_true rfl, Nat.le_of_ble_eq_true rfl⟩) [1, 2] [0, 3, 4, 5] [0] [0, 4, 5, 1, 2, 3] rfl rfl rfl rfl (by decide) rfl (fun _ => rfl) rfl 1 rfl rfl rfl rfl hl.1 rfl (Nat.le_of_ble_eq_true rfl) dX3_takeStep_4 ⟨Nat.zero_le _, Nat.zero_le _⟩ (fun r2 _ H locs hw1 hP hD hS => ?_)
  have hP : va_P D vwCl (kX3 cB cI gc me ba rg wa sm v_im v_ei v_ha v_hb v_cy v_by v_ct v_wd) H := hP
  have hD : va_D A (kX3 cB cI gc me ba rg wa sm v_im v_ei v_ha v_hb v_cy v_by v_ct v_wd) := hD
  have hf := hf.trans (kE1 hw1)
  refine lv_istore_n (lv' := [(1, .int r2), (0, .ref gc)]) hx hb dX3_takeStep_7 rfl hl (by decide) rfl (fun ls hl => ?_)
  refine lv_aload_n hx hb dX3_takeStep_8 rfl (lv_at hl 1 rfl) ?_
  refine va_get (D := D) (ci := 3) (v := .int (bI v_im)) (C := RX3) (T := TX3) (N := 8) hx hb hws inlX3 hown hK hP 0 rfl rfl 3 (by decide) (hws _ mw_105) (fun _ h9 => h9) rfl dX3_takeStep_9 ?_
  refine lv_if_eq (tgt := 31) hx hb dX3_takeStep_12 (by decide) (fun c3 => ?_) (fun c3 => ?_)
  · have hf := hf.trans (kt_eq c3)
    refine lv_aload_n hx hb dX3_takeStep_31 rfl (lv_at hl 1 rfl) ?_
    refine va_get (D := D) (ci := 3) (v := .int (bI v_ha)) (C := RX3) (T := TX3) (N := 8) hx hb hws inlX3 hown hK hP 0 rfl rfl 5 (by decide) (hws _ mw_106) (fun _ h9 => h9) rfl dX3_takeStep_32 ?_
    refine lv_if_eq (tgt := 49) hx hb dX3_takeStep_35 (by decide) (fun c4 => ?_) (fun c4 => ?_)
    · have hf := hf.trans (kt_eq c4)
      refine lv_aload_n hx hb dX3_takeStep_49 rfl (lv_at hl 1 rfl) ?_
      refine va_get (D := D) (ci := 3) (v := .ref me) (C := RX3) (T := TX3) (N := 8) hx hb hws inlX3 hown hK hP 0 rfl rfl 0 (by decide) (hws _ mw_15) (fun _ h9 => h9) rfl dX3_takeStep_50 ?_
      refine lv_aload_n hx hb dX3_takeStep_53 rfl (lv_at hl 1 rfl) ?_
      refine va_get (D := D) (ci := 3) (v := .ref rg) (C := RX3) (T := TX3) (N := 8) hx hb hws inlX3 hown hK hP 0 rfl rfl 1 (by decide) (hws _ mw_20) (fun _ h9 => h9) rfl dX3_takeStep_54 ?_
      refine lv_iconst (v := 5) hx hb dX3_takeStep_57 (by decide) ?_
      refine kc_Vi (wr := [(gc, .inr (3, [.ref me, .ref rg, .ref sm, .int (bI v_im), .int (bI v_ei), .int (bI v_ha), .int (bI v_hb), .int v_cy])), (me, .inr (0, [.ref ba, .int v_ct])), (ba, .inl (cB, 65536, .inl v_by)), (sm, .inr (2, [.ref rg]))]) (As := [.int (5 : Int32)]) (rest := [.ref me]) (fun _ => (kX3 cB cI gc me ba rg wa sm v_im v_ei v_ha v_hb v_cy v_by v_ct v_wd)) ⟨hx, hb, hml, hown, hws⟩ hK hP hD hS hA hT (c_X1_word l D cI rg wa H.size v_wd (5 : Int32)) (cwV 1 hws (gw_V mw_123 mw_124 mw_125 mw_32 mw_126) rfl rfl rfl hdX1_word ⟨Nat.le_of_ble_eq_true rfl, Nat.le_of_ble_eq_true rfl⟩) [3, 4] [0, 1, 2, 5] [1] [0, 1, 2, 4, 5, 3] rfl rfl rfl rfl (by decide) rfl (fun _ => rfl) rfl 3 rfl rfl rfl rfl hl.1 rfl (Nat.le_of_ble_eq_true rfl) dX3_takeStep_58 ⟨Nat.zero_le _, Nat.zero_le _⟩ (fun r6 _ H locs hw5 hP hD hS => ?_)
      have hP : va_P D vwCl (kX3 cB cI gc me ba rg wa sm v_im v_ei v_ha v_hb v_cy v_by v_ct v_wd) H := hP
      have hD : va_D A (kX3 cB cI gc me ba rg wa sm v_im v_ei v_ha v_hb v_cy v_by v_ct v_wd) := hD
      have hf := hf.trans (kE1 hw5)
      refine kc_Vi (wr := [(gc, .inr (3, [.ref me, .ref rg, .ref sm, .int (bI v_im), .int (bI v_ei), .int (bI v_ha), .int (bI v_hb), .int v_cy])), (rg, .inr (1, [.ref wa])), (wa, .inl (cI, 6, .inl v_wd)), (sm, .inr (2, [.ref rg]))]) (As := [.int r6]) (rest := []) (fun _ => (kX3 cB cI gc me ba rg wa sm v_im v_ei v_ha v_hb v_cy v_by v_ct v_wd)) ⟨hx, hb, hml, hown, hws⟩ hK hP hD hS hA hT (c_X0_at l D cB me ba H.size v_by v_ct r6) (cwV 1 hws (gw_V mw_85 mw_86 mw_87 mw_14 mw_88) rfl rfl rfl hdX0_at ⟨Nat.le_of_ble_eq_true rfl, Nat.le_of_ble_eq_true rfl⟩) [1, 2] [0, 3, 4, 5] [0] [0, 4, 5, 1, 2, 3] rfl rfl rfl rfl (by decide) rfl (fun _ => rfl) rfl 1 rfl rfl rfl rfl hl.1 rfl (Nat.le_of_ble_eq_true rfl) dX3_takeStep_61 ⟨Nat.zero_le _, Nat.zero_le _⟩ (fun r8 _ H locs hw7 hP hD hS => ?_)
      have hP : va_P D vwCl (kX3 cB cI gc me ba rg wa sm v_im v_ei v_ha v_hb v_cy v_by v_ct v_wd) H := hP
      have hD : va_D A (kX3 cB cI gc me ba rg wa sm v_im v_ei v_ha v_hb v_cy v_by v_ct v_wd) := hD
      have hf := hf.trans (kE1 hw7)
      refine lv_istore_n (lv' := [(2, .int r8), (1, .int r2), (0, .ref gc)]) hx hb dX3_takeStep_64 rfl hl (by decide) rfl (fun ls hl => ?_)
      obtain ⟨tb, hzb, hyb⟩ := hT.2.2
      refine va_gets (v := .ref tb) hx hb hzb hS hown (hws _ mw_107) (fun _ h9 => h9) dX3_takeStep_65 ?_
      refine lv_iload_n hx hb dX3_takeStep_68 rfl (lv_at hl 0 rfl) ?_
      refine lv_sipush (v := 255) hx hb dX3_takeStep_69 (by decide) ?_
      refine lv_iand hx hb dX3_takeStep_72 ?_
      refine va_ti (v := .int (tb_base (r8 &&& (255 : Int32)).toNatClampNeg)) hx hb hyb hS (ki_ff _) rfl dX3_takeStep_73 ?_
      refine lv_topi (fun x9 ex9 => ?_)
      have hf := hf.trans (kE1 ex9)
      refine lv_istore_n (lv' := [(3, .int x9), (2, .int r8), (1, .int r2), (0, .ref gc)]) hx hb dX3_takeStep_74 rfl hl (by decide) rfl (fun ls hl => ?_)
      refine lv_iload_n hx hb dX3_takeStep_75 rfl (lv_at hl 0 rfl) ?_
      refine lv_if_ne (tgt := 81) hx hb dX3_takeStep_76 (by decide) (fun c10 => ?_) (fun c10 => ?_)
      · have hf := hf.trans (kf_eq c10)
        refine lv_aload_n hx hb dX3_takeStep_81 rfl (lv_at hl 3 rfl) ?_
        refine lv_iconst (v := 0) hx hb dX3_takeStep_82 (by decide) ?_
        refine va_put (D := D) (ci := 3) (v := .int (bI false)) (ty := .boolean) (C := RX3) (T := TX3) (N := 8) hx hb hws inlX3 tyX3 tyX3_ok nmX3 hown hK hP hD hS 0 rfl rfl 5 (by decide) (hws _ mw_106) (fun _ h9 => h9) rfl (tyX3_ok 5 (by decide)) (bI_nar _) (bI_fit _) (Nat.le_of_ble_eq_true rfl) dX3_takeStep_83 (fun H locs hP hD hS => ?_)
        have hP : va_P D vwCl (kX3 cB cI gc me ba rg wa sm v_im v_ei false v_hb v_cy v_by v_ct v_wd) H := hP
        have hD : va_D A (kX3 cB cI gc me ba rg wa sm v_im v_ei false v_hb v_cy v_by v_ct v_wd) := hD
        refine lv_aload_n hx hb dX3_takeStep_86 rfl (lv_at hl 3 rfl) ?_
        refine kc_Vv (wr := []) (As := []) (rest := []) (fun u9 => (kX3 cB cI gc me ba rg wa sm v_im v_ei false (u9.1) v_cy v_by v_ct (u9.2))) ⟨hx, hb, hml, hown, hws⟩ hK hP hD hS hA hT (c_X3_leaveOpcode l D cB cI gc me ba rg wa sm H.size v_im v_ei false v_hb v_cy v_by v_ct v_wd ) (cwV 0 hws (gw_V mw_164 mw_165 mw_166 mw_2 mw_167) rfl rfl rfl hdX3_leaveOpcode ⟨Nat.le_of_ble_eq_true rfl, Nat.le_of_ble_eq_true rfl⟩) [0, 1, 2, 3, 4, 5] [] [0, 1] [0, 1, 2, 3, 4, 5] rfl rfl rfl rfl (by decide) rfl (fun _ => rfl) rfl 0 rfl rfl rfl rfl hl.1 rfl (Nat.le_of_ble_eq_true rfl) dX3_takeStep_87 ⟨Nat.zero_le _, Nat.zero_le _⟩ (fun u9 H locs hw13 hP hD hS => ?_)
        obtain ⟨b11, b12⟩ := u9
        have hP : va_P D vwCl (kX3 cB cI gc me ba rg wa sm v_im v_ei false b11 v_cy v_by v_ct b12) H := hP
        have hD : va_D A (kX3 cB cI gc me ba rg wa sm v_im v_ei false b11 v_cy v_by v_ct b12) := hD
        have hf := hf.trans (kE2 hw13)
        refine lv_aload_n hx hb dX3_takeStep_90 rfl (lv_at hl 3 rfl) ?_
        refine va_get (D := D) (ci := 3) (v := .int (bI v_ei)) (C := RX3) (T := TX3) (N := 8) hx hb hws inlX3 hown hK hP 0 rfl rfl 4 (by decide) (hws _ mw_108) (fun _ h9 => h9) rfl dX3_takeStep_91 ?_
        refine lv_istore (lv' := [(4, .int (bI v_ei)), (3, .int x9), (2, .int r8), (1, .int r2), (0, .ref gc)]) hx hb dX3_takeStep_94 hl (by decide) rfl (fun ls hl => ?_)
        refine lv_aload_n hx hb dX3_takeStep_96 rfl (lv_at hl 4 rfl) ?_
        refine lv_iload_n hx hb dX3_takeStep_97 rfl (lv_at hl 2 rfl) ?_
        refine kc_Vi (wr := []) (As := [.int r8]) (rest := []) (fun u9 => (kX3 cB cI gc me ba rg wa sm (u9.1) (u9.2.1) (u9.2.2.1) (u9.2.2.2.1) v_cy (u9.2.2.2.2.1) (u9.2.2.2.2.2.1) (u9.2.2.2.2.2.2))) ⟨hx, hb, hml, hown, hws⟩ hK hP hD hS hA hT (c_X3_execute l D cB cI gc me ba rg wa sm H.size v_im v_ei false b11 v_cy v_by v_ct b12 r8) (cwV 1 hws (gw_V mw_169 mw_170 mw_171 mw_2 mw_172) rfl rfl rfl hdX3_execute ⟨Nat.le_of_ble_eq_true rfl, Nat.le_of_ble_eq_true rfl⟩) [0, 1, 2, 3, 4, 5] [] [0, 1] [0, 1, 2, 3, 4, 5] rfl rfl rfl rfl (by decide) rfl (fun _ => rfl) rfl 0 rfl rfl rfl rfl hl.1 rfl (Nat.le_of_ble_eq_true rfl) dX3_takeStep_98 ⟨Nat.zero_le _, Nat.zero_le _⟩ (fun r22 u9 H locs hw21 hP hD hS => ?_)
        obtain ⟨b14, b15, b16, b17, b18, b19, b20⟩ := u9
        have hP : va_P D vwCl (kX3 cB cI gc me ba rg wa sm b14 b15 b16 b17 v_cy b18 b19 b20) H := hP
        have hD : va_D A (kX3 cB cI gc me ba rg wa sm b14 b15 b16 b17 v_cy b18 b19 b20) := hD
        have hf := hf.trans (kE8 hw21)
        refine lv_istore (lv' := [(5, .int r22), (4, .int (bI v_ei)), (3, .int x9), (2, .int r8), (1, .int r2), (0, .ref gc)]) hx hb dX3_takeStep_101 hl (by decide) rfl (fun ls hl => ?_)
        refine lv_iload hx hb dX3_takeStep_103 (lv_at hl 1 rfl) ?_
        obtain ⟨TJ27, hTJ27⟩ : ∃ T9 : Bool × Bool, T9 = (kIf (kEq (bI v_ei) (0 : Int32)) (b14, b15) (kIf (kEq r8 (243 : Int32)) (b14, b15) (true, false))) := ⟨_, rfl⟩
        have J27 : ∀ (b25 : Bool) (b26 : Bool), (b25, b26) = TJ27 → ∀ (H : Heap) (locs : List Loc) (ls : Array Slot), lv_has ls 6 [(5, .int r22), (4, .int (bI v_ei)), (3, .int x9), (2, .int r8), (1, .int r2), (0, .ref gc)] → va_P D vwCl (kX3 cB cI gc me ba rg wa sm b25 b26 b16 b17 v_cy b18 b19 b20) H → va_D A (kX3 cB cI gc me ba rg wa sm b25 b26 b16 b17 v_cy b18 b19 b20) → va_S A s.heap H locs → W p l e (headSpec wwX3_takeStep rmX3_takeStep).room s m ([.ref gc] : List Value).toArray below meth c H locs 0 0 Q (F0 m 125 ls []) := by
          intro b25 b26 eJ27 H locs ls hl hP hD hS
          have hf := hf.trans (kE2 (eJ27.trans hTJ27))
          refine lv_aload_n hx hb dX3_takeStep_125 rfl (lv_at hl 5 rfl) ?_
          refine lv_iload_n hx hb dX3_takeStep_126 rfl (lv_at hl 2 rfl) ?_
          refine lv_iload hx hb dX3_takeStep_127 (lv_at hl 0 rfl) ?_
          refine lv_iadd hx hb dX3_takeStep_129 ?_
          refine kc_Vv (wr := []) (As := [.int (x9 + r22)]) (rest := []) (fun u9 => (kX3 cB cI gc me ba rg wa sm b25 b26 b16 b17 (u9.1) (u9.2.1) (u9.2.2) b20)) ⟨hx, hb, hml, hown, hws⟩ hK hP hD hS hA hT (c_X3_pass l D cB cI gc me ba rg wa sm H.size b25 b26 b16 b17 v_cy b18 b19 b20 (x9 + r22)) (cwV 1 hws (gw_V mw_143 mw_144 mw_145 mw_2 mw_146) rfl rfl rfl hdX3_pass ⟨Nat.le_of_ble_eq_true rfl, Nat.le_of_ble_eq_true rfl⟩) [0, 1, 2, 3, 4, 5] [] [0, 1] [0, 1, 2, 3, 4, 5] rfl rfl rfl rfl (by decide) rfl (fun _ => rfl) rfl 0 rfl rfl rfl rfl hl.1 rfl (Nat.le_of_ble_eq_true rfl) dX3_takeStep_130 ⟨Nat.zero_le _, Nat.zero_le _⟩ (fun u9 H locs hw31 hP hD hS => ?_)
          obtain ⟨b28, b29, b30⟩ := u9
          have hP : va_P D vwCl (kX3 cB cI gc me ba rg wa sm b25 b26 b16 b17 b28 b29 b30 b20) H := hP
          have hD : va_D A (kX3 cB cI gc me ba rg wa sm b25 b26 b16 b17 b28 b29 b30 b20) := hD
          have hf := hf.trans (kE3 hw31)
          refine lv_iconst (v := 0) hx hb dX3_takeStep_133 (by decide) ?_
          rw [← hQ]
          exact W.iret (v := (0 : Int32)) hx hb hr (fun t ht hW => ⟨⟨(0 : Int32), (b25, b26, b16, b17, b28, b29, b30, b20), rfl, hf.symm, by rw [ht]; exact hP, va_K.moved hW.alike hK, hD⟩, hS.F ht⟩) hS.2.2 dX3_takeStep_134
        have hf := hTJ27
        refine lv_if_eq (tgt := 125) hx hb dX3_takeStep_105 (by decide) (fun c23 => ?_) (fun c23 => ?_)
        · have hf := hf.trans (kt_eq c23)
          exact J27 b14 b15 hf.symm H locs ls (lv_sub hl [0, 1, 2, 3, 4, 5] rfl) hP hD hS
        · have hf := hf.trans (kf_eq c23)
          refine lv_iload_n hx hb dX3_takeStep_108 rfl (lv_at hl 3 rfl) ?_
          refine lv_sipush (v := 243) hx hb dX3_takeStep_109 (by decide) ?_
          refine lv_icmp_eq (tgt := 125) hx hb dX3_takeStep_112 (by decide) (fun c24 => ?_) (fun c24 => ?_)
          · have hf := hf.trans (kt_eq c24)
            exact J27 b14 b15 hf.symm H locs ls (lv_sub hl [0, 1, 2, 3, 4, 5] rfl) hP hD hS
          · have hf := hf.trans (kf_eq c24)
            refine lv_aload_n hx hb dX3_takeStep_115 rfl (lv_at hl 5 rfl) ?_
            refine lv_iconst (v := 1) hx hb dX3_takeStep_116 (by decide) ?_
            refine va_put (D := D) (ci := 3) (v := .int (bI true)) (ty := .boolean) (C := RX3) (T := TX3) (N := 8) hx hb hws inlX3 tyX3 tyX3_ok nmX3 hown hK hP hD hS 0 rfl rfl 3 (by decide) (hws _ mw_105) (fun _ h9 => h9) rfl (tyX3_ok 3 (by decide)) (bI_nar _) (bI_fit _) (Nat.le_of_ble_eq_true rfl) dX3_takeStep_117 (fun H locs hP hD hS => ?_)
            have hP : va_P D vwCl (kX3 cB cI gc me ba rg wa sm true b15 b16 b17 v_cy b18 b19 b20) H := hP
            have hD : va_D A (kX3 cB cI gc me ba rg wa sm true b15 b16 b17 v_cy b18 b19 b20) := hD
            refine lv_aload_n hx hb dX3_takeStep_120 rfl (lv_at hl 5 rfl) ?_
            refine lv_iconst (v := 0) hx hb dX3_takeStep_121 (by decide) ?_
            refine va_put (D := D) (ci := 3) (v := .int (bI false)) (ty := .boolean) (C := RX3) (T := TX3) (N := 8) hx hb hws inlX3 tyX3 tyX3_ok nmX3 hown hK hP hD hS 0 rfl rfl 4 (by decide) (hws _ mw_108) (fun _ h9 => h9) rfl (tyX3_ok 4 (by decide)) (bI_nar _) (bI_fit _) (Nat.le_of_ble_eq_true rfl) dX3_takeStep_122 (fun H locs hP hD hS => ?_)
            have hP : va_P D vwCl (kX3 cB cI gc me ba rg wa sm true false b16 b17 v_cy b18 b19 b20) H := hP
            have hD : va_D A (kX3 cB cI gc me ba rg wa sm true false b16 b17 v_cy b18 b19 b20) := hD
            exact J27 true false hf.symm H locs ls (lv_sub hl [0, 1, 2, 3, 4, 5] rfl) hP hD hS
      · have hf := hf.trans (kt_eq c10)
        refine lv_iconst (v := 2) hx hb dX3_takeStep_79 (by decide) ?_
        rw [← hQ]
        exact W.iret (v := (2 : Int32)) hx hb hr (fun t ht hW => ⟨⟨(2 : Int32), (v_im, v_ei, v_ha, v_hb, v_cy, v_by, v_ct, v_wd), rfl, hf.symm, by rw [ht]; exact hP, va_K.moved hW.alike hK, hD⟩, hS.F ht⟩) hS.2.2 dX3_takeStep_80
    · have hf := hf.trans (kf_eq c4)
      refine lv_iload_n hx hb dX3_takeStep_38 rfl (lv_at hl 0 rfl) ?_
      refine lv_if_ne (tgt := 49) hx hb dX3_takeStep_39 (by decide) (fun c32 => ?_) (fun c32 => ?_)
      · have hf := hf.trans (kf_eq c32)
        refine lv_aload_n hx hb dX3_takeStep_49 rfl (lv_at hl 1 rfl) ?_
        refine va_get (D := D) (ci := 3) (v := .ref me) (C := RX3) (T := TX3) (N := 8) hx hb hws inlX3 hown hK hP 0 rfl rfl 0 (by decide) (hws _ mw_15) (fun _ h9 => h9) rfl dX3_takeStep_50 ?_
        refine lv_aload_n hx hb dX3_takeStep_53 rfl (lv_at hl 1 rfl) ?_
        refine va_get (D := D) (ci := 3) (v := .ref rg) (C := RX3) (T := TX3) (N := 8) hx hb hws inlX3 hown hK hP 0 rfl rfl 1 (by decide) (hws _ mw_20) (fun _ h9 => h9) rfl dX3_takeStep_54 ?_
        refine lv_iconst (v := 5) hx hb dX3_takeStep_57 (by decide) ?_
        refine kc_Vi (wr := [(gc, .inr (3, [.ref me, .ref rg, .ref sm, .int (bI v_im), .int (bI v_ei), .int (bI v_ha), .int (bI v_hb), .int v_cy])), (me, .inr (0, [.ref ba, .int v_ct])), (ba, .inl (cB, 65536, .inl v_by)), (sm, .inr (2, [.ref rg]))]) (As := [.int (5 : Int32)]) (rest := [.ref me]) (fun _ => (kX3 cB cI gc me ba rg wa sm v_im v_ei v_ha v_hb v_cy v_by v_ct v_wd)) ⟨hx, hb, hml, hown, hws⟩ hK hP hD hS hA hT (c_X1_word l D cI rg wa H.size v_wd (5 : Int32)) (cwV 1 hws (gw_V mw_123 mw_124 mw_125 mw_32 mw_126) rfl rfl rfl hdX1_word ⟨Nat.le_of_ble_eq_true rfl, Nat.le_of_ble_eq_true rfl⟩) [3, 4] [0, 1, 2, 5] [1] [0, 1, 2, 4, 5, 3] rfl rfl rfl rfl (by decide) rfl (fun _ => rfl) rfl 3 rfl rfl rfl rfl hl.1 rfl (Nat.le_of_ble_eq_true rfl) dX3_takeStep_58 ⟨Nat.zero_le _, Nat.zero_le _⟩ (fun r34 _ H locs hw33 hP hD hS => ?_)
        have hP : va_P D vwCl (kX3 cB cI gc me ba rg wa sm v_im v_ei v_ha v_hb v_cy v_by v_ct v_wd) H := hP
        have hD : va_D A (kX3 cB cI gc me ba rg wa sm v_im v_ei v_ha v_hb v_cy v_by v_ct v_wd) := hD
        have hf := hf.trans (kE1 hw33)
        refine kc_Vi (wr := [(gc, .inr (3, [.ref me, .ref rg, .ref sm, .int (bI v_im), .int (bI v_ei), .int (bI v_ha), .int (bI v_hb), .int v_cy])), (rg, .inr (1, [.ref wa])), (wa, .inl (cI, 6, .inl v_wd)), (sm, .inr (2, [.ref rg]))]) (As := [.int r34]) (rest := []) (fun _ => (kX3 cB cI gc me ba rg wa sm v_im v_ei v_ha v_hb v_cy v_by v_ct v_wd)) ⟨hx, hb, hml, hown, hws⟩ hK hP hD hS hA hT (c_X0_at l D cB me ba H.size v_by v_ct r34) (cwV 1 hws (gw_V mw_85 mw_86 mw_87 mw_14 mw_88) rfl rfl rfl hdX0_at ⟨Nat.le_of_ble_eq_true rfl, Nat.le_of_ble_eq_true rfl⟩) [1, 2] [0, 3, 4, 5] [0] [0, 4, 5, 1, 2, 3] rfl rfl rfl rfl (by decide) rfl (fun _ => rfl) rfl 1 rfl rfl rfl rfl hl.1 rfl (Nat.le_of_ble_eq_true rfl) dX3_takeStep_61 ⟨Nat.zero_le _, Nat.zero_le _⟩ (fun r36 _ H locs hw35 hP hD hS => ?_)
        have hP : va_P D vwCl (kX3 cB cI gc me ba rg wa sm v_im v_ei v_ha v_hb v_cy v_by v_ct v_wd) H := hP
        have hD : va_D A (kX3 cB cI gc me ba rg wa sm v_im v_ei v_ha v_hb v_cy v_by v_ct v_wd) := hD
        have hf := hf.trans (kE1 hw35)
        refine lv_istore_n (lv' := [(2, .int r36), (1, .int r2), (0, .ref gc)]) hx hb dX3_takeStep_64 rfl hl (by decide) rfl (fun ls hl => ?_)
        obtain ⟨tb, hzb, hyb⟩ := hT.2.2
        refine va_gets (v := .ref tb) hx hb hzb hS hown (hws _ mw_107) (fun _ h9 => h9) dX3_takeStep_65 ?_
        refine lv_iload_n hx hb dX3_takeStep_68 rfl (lv_at hl 0 rfl) ?_
        refine lv_sipush (v := 255) hx hb dX3_takeStep_69 (by decide) ?_
        refine lv_iand hx hb dX3_takeStep_72 ?_
        refine va_ti (v := .int (tb_base (r36 &&& (255 : Int32)).toNatClampNeg)) hx hb hyb hS (ki_ff _) rfl dX3_takeStep_73 ?_
        refine lv_topi (fun x37 ex37 => ?_)
        have hf := hf.trans (kE1 ex37)
        refine lv_istore_n (lv' := [(3, .int x37), (2, .int r36), (1, .int r2), (0, .ref gc)]) hx hb dX3_takeStep_74 rfl hl (by decide) rfl (fun ls hl => ?_)
        refine lv_iload_n hx hb dX3_takeStep_75 rfl (lv_at hl 0 rfl) ?_
        refine lv_if_ne (tgt := 81) hx hb dX3_takeStep_76 (by decide) (fun c38 => ?_) (fun c38 => ?_)
        · have hf := hf.trans (kf_eq c38)
          refine lv_aload_n hx hb dX3_takeStep_81 rfl (lv_at hl 3 rfl) ?_
          refine lv_iconst (v := 0) hx hb dX3_takeStep_82 (by decide) ?_
          refine va_put (D := D) (ci := 3) (v := .int (bI false)) (ty := .boolean) (C := RX3) (T := TX3) (N := 8) hx hb hws inlX3 tyX3 tyX3_ok nmX3 hown hK hP hD hS 0 rfl rfl 5 (by decide) (hws _ mw_106) (fun _ h9 => h9) rfl (tyX3_ok 5 (by decide)) (bI_nar _) (bI_fit _) (Nat.le_of_ble_eq_true rfl) dX3_takeStep_83 (fun H locs hP hD hS => ?_)
          have hP : va_P D vwCl (kX3 cB cI gc me ba rg wa sm v_im v_ei false v_hb v_cy v_by v_ct v_wd) H := hP
          have hD : va_D A (kX3 cB cI gc me ba rg wa sm v_im v_ei false v_hb v_cy v_by v_ct v_wd) := hD
          refine lv_aload_n hx hb dX3_takeStep_86 rfl (lv_at hl 3 rfl) ?_
          refine kc_Vv (wr := []) (As := []) (rest := []) (fun u9 => (kX3 cB cI gc me ba rg wa sm v_im v_ei false (u9.1) v_cy v_by v_ct (u9.2))) ⟨hx, hb, hml, hown, hws⟩ hK hP hD hS hA hT (c_X3_leaveOpcode l D cB cI gc me ba rg wa sm H.size v_im v_ei false v_hb v_cy v_by v_ct v_wd ) (cwV 0 hws (gw_V mw_164 mw_165 mw_166 mw_2 mw_167) rfl rfl rfl hdX3_leaveOpcode ⟨Nat.le_of_ble_eq_true rfl, Nat.le_of_ble_eq_true rfl⟩) [0, 1, 2, 3, 4, 5] [] [0, 1] [0, 1, 2, 3, 4, 5] rfl rfl rfl rfl (by decide) rfl (fun _ => rfl) rfl 0 rfl rfl rfl rfl hl.1 rfl (Nat.le_of_ble_eq_true rfl) dX3_takeStep_87 ⟨Nat.zero_le _, Nat.zero_le _⟩ (fun u9 H locs hw41 hP hD hS => ?_)
          obtain ⟨b39, b40⟩ := u9
          have hP : va_P D vwCl (kX3 cB cI gc me ba rg wa sm v_im v_ei false b39 v_cy v_by v_ct b40) H := hP
          have hD : va_D A (kX3 cB cI gc me ba rg wa sm v_im v_ei false b39 v_cy v_by v_ct b40) := hD
          have hf := hf.trans (kE2 hw41)
          refine lv_aload_n hx hb dX3_takeStep_90 rfl (lv_at hl 3 rfl) ?_
          refine va_get (D := D) (ci := 3) (v := .int (bI v_ei)) (C := RX3) (T := TX3) (N := 8) hx hb hws inlX3 hown hK hP 0 rfl rfl 4 (by decide) (hws _ mw_108) (fun _ h9 => h9) rfl dX3_takeStep_91 ?_
          refine lv_istore (lv' := [(4, .int (bI v_ei)), (3, .int x37), (2, .int r36), (1, .int r2), (0, .ref gc)]) hx hb dX3_takeStep_94 hl (by decide) rfl (fun ls hl => ?_)
          refine lv_aload_n hx hb dX3_takeStep_96 rfl (lv_at hl 4 rfl) ?_
          refine lv_iload_n hx hb dX3_takeStep_97 rfl (lv_at hl 2 rfl) ?_
          refine kc_Vi (wr := []) (As := [.int r36]) (rest := []) (fun u9 => (kX3 cB cI gc me ba rg wa sm (u9.1) (u9.2.1) (u9.2.2.1) (u9.2.2.2.1) v_cy (u9.2.2.2.2.1) (u9.2.2.2.2.2.1) (u9.2.2.2.2.2.2))) ⟨hx, hb, hml, hown, hws⟩ hK hP hD hS hA hT (c_X3_execute l D cB cI gc me ba rg wa sm H.size v_im v_ei false b39 v_cy v_by v_ct b40 r36) (cwV 1 hws (gw_V mw_169 mw_170 mw_171 mw_2 mw_172) rfl rfl rfl hdX3_execute ⟨Nat.le_of_ble_eq_true rfl, Nat.le_of_ble_eq_true rfl⟩) [0, 1, 2, 3, 4, 5] [] [0, 1] [0, 1, 2, 3, 4, 5] rfl rfl rfl rfl (by decide) rfl (fun _ => rfl) rfl 0 rfl rfl rfl rfl hl.1 rfl (Nat.le_of_ble_eq_true rfl) dX3_takeStep_98 ⟨Nat.zero_le _, Nat.zero_le _⟩ (fun r50 u9 H locs hw49 hP hD hS => ?_)
          obtain ⟨b42, b43, b44, b45, b46, b47, b48⟩ := u9
          have hP : va_P D vwCl (kX3 cB cI gc me ba rg wa sm b42 b43 b44 b45 v_cy b46 b47 b48) H := hP
          have hD : va_D A (kX3 cB cI gc me ba rg wa sm b42 b43 b44 b45 v_cy b46 b47 b48) := hD
          have hf := hf.trans (kE8 hw49)
          refine lv_istore (lv' := [(5, .int r50), (4, .int (bI v_ei)), (3, .int x37), (2, .int r36), (1, .int r2), (0, .ref gc)]) hx hb dX3_takeStep_101 hl (by decide) rfl (fun ls hl => ?_)
          refine lv_iload hx hb dX3_takeStep_103 (lv_at hl 1 rfl) ?_
          obtain ⟨TJ55, hTJ55⟩ : ∃ T9 : Bool × Bool, T9 = (kIf (kEq (bI v_ei) (0 : Int32)) (b42, b43) (kIf (kEq r36 (243 : Int32)) (b42, b43) (true, false))) := ⟨_, rfl⟩
          have J55 : ∀ (b53 : Bool) (b54 : Bool), (b53, b54) = TJ55 → ∀ (H : Heap) (locs : List Loc) (ls : Array Slot), lv_has ls 6 [(5, .int r50), (4, .int (bI v_ei)), (3, .int x37), (2, .int r36), (1, .int r2), (0, .ref gc)] → va_P D vwCl (kX3 cB cI gc me ba rg wa sm b53 b54 b44 b45 v_cy b46 b47 b48) H → va_D A (kX3 cB cI gc me ba rg wa sm b53 b54 b44 b45 v_cy b46 b47 b48) → va_S A s.heap H locs → W p l e (headSpec wwX3_takeStep rmX3_takeStep).room s m ([.ref gc] : List Value).toArray below meth c H locs 0 0 Q (F0 m 125 ls []) := by
            intro b53 b54 eJ55 H locs ls hl hP hD hS
            have hf := hf.trans (kE2 (eJ55.trans hTJ55))
            refine lv_aload_n hx hb dX3_takeStep_125 rfl (lv_at hl 5 rfl) ?_
            refine lv_iload_n hx hb dX3_takeStep_126 rfl (lv_at hl 2 rfl) ?_
            refine lv_iload hx hb dX3_takeStep_127 (lv_at hl 0 rfl) ?_
            refine lv_iadd hx hb dX3_takeStep_129 ?_
            refine kc_Vv (wr := []) (As := [.int (x37 + r50)]) (rest := []) (fun u9 => (kX3 cB cI gc me ba rg wa sm b53 b54 b44 b45 (u9.1) (u9.2.1) (u9.2.2) b48)) ⟨hx, hb, hml, hown, hws⟩ hK hP hD hS hA hT (c_X3_pass l D cB cI gc me ba rg wa sm H.size b53 b54 b44 b45 v_cy b46 b47 b48 (x37 + r50)) (cwV 1 hws (gw_V mw_143 mw_144 mw_145 mw_2 mw_146) rfl rfl rfl hdX3_pass ⟨Nat.le_of_ble_eq_true rfl, Nat.le_of_ble_eq_true rfl⟩) [0, 1, 2, 3, 4, 5] [] [0, 1] [0, 1, 2, 3, 4, 5] rfl rfl rfl rfl (by decide) rfl (fun _ => rfl) rfl 0 rfl rfl rfl rfl hl.1 rfl (Nat.le_of_ble_eq_true rfl) dX3_takeStep_130 ⟨Nat.zero_le _, Nat.zero_le _⟩ (fun u9 H locs hw59 hP hD hS => ?_)
            obtain ⟨b56, b57, b58⟩ := u9
            have hP : va_P D vwCl (kX3 cB cI gc me ba rg wa sm b53 b54 b44 b45 b56 b57 b58 b48) H := hP
            have hD : va_D A (kX3 cB cI gc me ba rg wa sm b53 b54 b44 b45 b56 b57 b58 b48) := hD
            have hf := hf.trans (kE3 hw59)
            refine lv_iconst (v := 0) hx hb dX3_takeStep_133 (by decide) ?_
            rw [← hQ]
            exact W.iret (v := (0 : Int32)) hx hb hr (fun t ht hW => ⟨⟨(0 : Int32), (b53, b54, b44, b45, b56, b57, b58, b48), rfl, hf.symm, by rw [ht]; exact hP, va_K.moved hW.alike hK, hD⟩, hS.F ht⟩) hS.2.2 dX3_takeStep_134
          have hf := hTJ55
          refine lv_if_eq (tgt := 125) hx hb dX3_takeStep_105 (by decide) (fun c51 => ?_) (fun c51 => ?_)
          · have hf := hf.trans (kt_eq c51)
            exact J55 b42 b43 hf.symm H locs ls (lv_sub hl [0, 1, 2, 3, 4, 5] rfl) hP hD hS
          · have hf := hf.trans (kf_eq c51)
            refine lv_iload_n hx hb dX3_takeStep_108 rfl (lv_at hl 3 rfl) ?_
            refine lv_sipush (v := 243) hx hb dX3_takeStep_109 (by decide) ?_
            refine lv_icmp_eq (tgt := 125) hx hb dX3_takeStep_112 (by decide) (fun c52 => ?_) (fun c52 => ?_)
            · have hf := hf.trans (kt_eq c52)
              exact J55 b42 b43 hf.symm H locs ls (lv_sub hl [0, 1, 2, 3, 4, 5] rfl) hP hD hS
            · have hf := hf.trans (kf_eq c52)
              refine lv_aload_n hx hb dX3_takeStep_115 rfl (lv_at hl 5 rfl) ?_
              refine lv_iconst (v := 1) hx hb dX3_takeStep_116 (by decide) ?_
              refine va_put (D := D) (ci := 3) (v := .int (bI true)) (ty := .boolean) (C := RX3) (T := TX3) (N := 8) hx hb hws inlX3 tyX3 tyX3_ok nmX3 hown hK hP hD hS 0 rfl rfl 3 (by decide) (hws _ mw_105) (fun _ h9 => h9) rfl (tyX3_ok 3 (by decide)) (bI_nar _) (bI_fit _) (Nat.le_of_ble_eq_true rfl) dX3_takeStep_117 (fun H locs hP hD hS => ?_)
              have hP : va_P D vwCl (kX3 cB cI gc me ba rg wa sm true b43 b44 b45 v_cy b46 b47 b48) H := hP
              have hD : va_D A (kX3 cB cI gc me ba rg wa sm true b43 b44 b45 v_cy b46 b47 b48) := hD
              refine lv_aload_n hx hb dX3_takeStep_120 rfl (lv_at hl 5 rfl) ?_
              refine lv_iconst (v := 0) hx hb dX3_takeStep_121 (by decide) ?_
              refine va_put (D := D) (ci := 3) (v := .int (bI false)) (ty := .boolean) (C := RX3) (T := TX3) (N := 8) hx hb hws inlX3 tyX3 tyX3_ok nmX3 hown hK hP hD hS 0 rfl rfl 4 (by decide) (hws _ mw_108) (fun _ h9 => h9) rfl (tyX3_ok 4 (by decide)) (bI_nar _) (bI_fit _) (Nat.le_of_ble_eq_true rfl) dX3_takeStep_122 (fun H locs hP hD hS => ?_)
              have hP : va_P D vwCl (kX3 cB cI gc me ba rg wa sm true false b44 b45 v_cy b46 b47 b48) H := hP
              have hD : va_D A (kX3 cB cI gc me ba rg wa sm true false b44 b45 v_cy b46 b47 b48) := hD
              exact J55 true false hf.symm H locs ls (lv_sub hl [0, 1, 2, 3, 4, 5] rfl) hP hD hS
        · have hf := hf.trans (kt_eq c38)
          refine lv_iconst (v := 2) hx hb dX3_takeStep_79 (by decide) ?_
          rw [← hQ]
          exact W.iret (v := (2 : Int32)) hx hb hr (fun t ht hW => ⟨⟨(2 : Int32), (v_im, v_ei, v_ha, v_hb, v_cy, v_by, v_ct, v_wd), rfl, hf.symm, by rw [ht]; exact hP, va_K.moved hW.alike hK, hD⟩, hS.F ht⟩) hS.2.2 dX3_takeStep_80
      · have hf := hf.trans (kt_eq c32)
        refine lv_aload_n hx hb dX3_takeStep_42 rfl (lv_at hl 1 rfl) ?_
        refine lv_iconst (v := 1) hx hb dX3_takeStep_43 (by decide) ?_
        refine kc_Vv (wr := []) (As := [.int (1 : Int32)]) (rest := []) (fun u9 => (kX3 cB cI gc me ba rg wa sm v_im v_ei v_ha v_hb (u9.1) (u9.2.1) (u9.2.2) v_wd)) ⟨hx, hb, hml, hown, hws⟩ hK hP hD hS hA hT (c_X3_pass l D cB cI gc me ba rg wa sm H.size v_im v_ei v_ha v_hb v_cy v_by v_ct v_wd (1 : Int32)) (cwV 1 hws (gw_V mw_143 mw_144 mw_145 mw_2 mw_146) rfl rfl rfl hdX3_pass ⟨Nat.le_of_ble_eq_true rfl, Nat.le_of_ble_eq_true rfl⟩) [0, 1, 2, 3, 4, 5] [] [0, 1] [0, 1, 2, 3, 4, 5] rfl rfl rfl rfl (by decide) rfl (fun _ => rfl) rfl 0 rfl rfl rfl rfl hl.1 rfl (Nat.le_of_ble_eq_true rfl) dX3_takeStep_44 ⟨Nat.zero_le _, Nat.zero_le _⟩ (fun u9 H locs hw63 hP hD hS => ?_)
        obtain ⟨b60, b61, b62⟩ := u9
        have hP : va_P D vwCl (kX3 cB cI gc me ba rg wa sm v_im v_ei v_ha v_hb b60 b61 b62 v_wd) H := hP
        have hD : va_D A (kX3 cB cI gc me ba rg wa sm v_im v_ei v_ha v_hb b60 b61 b62 v_wd) := hD
        have hf := hf.trans (kE3 hw63)
        refine lv_iconst (v := 1) hx hb dX3_takeStep_47 (by decide) ?_
        rw [← hQ]
        exact W.iret (v := (1 : Int32)) hx hb hr (fun t ht hW => ⟨⟨(1 : Int32), (v_im, v_ei, v_ha, v_hb, b60, b61, b62, v_wd), rfl, hf.symm, by rw [ht]; exact hP, va_K.moved hW.alike hK, hD⟩, hS.F ht⟩) hS.2.2 dX3_takeStep_48
  · have hf := hf.trans (kf_eq c3)
    refine lv_iload_n hx hb dX3_takeStep_15 rfl (lv_at hl 0 rfl) ?_
    refine lv_if_eq (tgt := 31) hx hb dX3_takeStep_16 (by decide) (fun c64 => ?_) (fun c64 => ?_)
    · have hf := hf.trans (kt_eq c64)
      refine lv_aload_n hx hb dX3_takeStep_31 rfl (lv_at hl 1 rfl) ?_
      refine va_get (D := D) (ci := 3) (v := .int (bI v_ha)) (C := RX3) (T := TX3) (N := 8) hx hb hws inlX3 hown hK hP 0 rfl rfl 5 (by decide) (hws _ mw_106) (fun _ h9 => h9) rfl dX3_takeStep_32 ?_
      refine lv_if_eq (tgt := 49) hx hb dX3_takeStep_35 (by decide) (fun c65 => ?_) (fun c65 => ?_)
      · have hf := hf.trans (kt_eq c65)
        refine lv_aload_n hx hb dX3_takeStep_49 rfl (lv_at hl 1 rfl) ?_
        refine va_get (D := D) (ci := 3) (v := .ref me) (C := RX3) (T := TX3) (N := 8) hx hb hws inlX3 hown hK hP 0 rfl rfl 0 (by decide) (hws _ mw_15) (fun _ h9 => h9) rfl dX3_takeStep_50 ?_
        refine lv_aload_n hx hb dX3_takeStep_53 rfl (lv_at hl 1 rfl) ?_
        refine va_get (D := D) (ci := 3) (v := .ref rg) (C := RX3) (T := TX3) (N := 8) hx hb hws inlX3 hown hK hP 0 rfl rfl 1 (by decide) (hws _ mw_20) (fun _ h9 => h9) rfl dX3_takeStep_54 ?_
        refine lv_iconst (v := 5) hx hb dX3_takeStep_57 (by decide) ?_
        refine kc_Vi (wr := [(gc, .inr (3, [.ref me, .ref rg, .ref sm, .int (bI v_im), .int (bI v_ei), .int (bI v_ha), .int (bI v_hb), .int v_cy])), (me, .inr (0, [.ref ba, .int v_ct])), (ba, .inl (cB, 65536, .inl v_by)), (sm, .inr (2, [.ref rg]))]) (As := [.int (5 : Int32)]) (rest := [.ref me]) (fun _ => (kX3 cB cI gc me ba rg wa sm v_im v_ei v_ha v_hb v_cy v_by v_ct v_wd)) ⟨hx, hb, hml, hown, hws⟩ hK hP hD hS hA hT (c_X1_word l D cI rg wa H.size v_wd (5 : Int32)) (cwV 1 hws (gw_V mw_123 mw_124 mw_125 mw_32 mw_126) rfl rfl rfl hdX1_word ⟨Nat.le_of_ble_eq_true rfl, Nat.le_of_ble_eq_true rfl⟩) [3, 4] [0, 1, 2, 5] [1] [0, 1, 2, 4, 5, 3] rfl rfl rfl rfl (by decide) rfl (fun _ => rfl) rfl 3 rfl rfl rfl rfl hl.1 rfl (Nat.le_of_ble_eq_true rfl) dX3_takeStep_58 ⟨Nat.zero_le _, Nat.zero_le _⟩ (fun r67 _ H locs hw66 hP hD hS => ?_)
        have hP : va_P D vwCl (kX3 cB cI gc me ba rg wa sm v_im v_ei v_ha v_hb v_cy v_by v_ct v_wd) H := hP
        have hD : va_D A (kX3 cB cI gc me ba rg wa sm v_im v_ei v_ha v_hb v_cy v_by v_ct v_wd) := hD
        have hf := hf.trans (kE1 hw66)
        refine kc_Vi (wr := [(gc, .inr (3, [.ref me, .ref rg, .ref sm, .int (bI v_im), .int (bI v_ei), .int (bI v_ha), .int (bI v_hb), .int v_cy])), (rg, .inr (1, [.ref wa])), (wa, .inl (cI, 6, .inl v_wd)), (sm, .inr (2, [.ref rg]))]) (As := [.int r67]) (rest := []) (fun _ => (kX3 cB cI gc me ba rg wa sm v_im v_ei v_ha v_hb v_cy v_by v_ct v_wd)) ⟨hx, hb, hml, hown, hws⟩ hK hP hD hS hA hT (c_X0_at l D cB me ba H.size v_by v_ct r67) (cwV 1 hws (gw_V mw_85 mw_86 mw_87 mw_14 mw_88) rfl rfl rfl hdX0_at ⟨Nat.le_of_ble_eq_true rfl, Nat.le_of_ble_eq_true rfl⟩) [1, 2] [0, 3, 4, 5] [0] [0, 4, 5, 1, 2, 3] rfl rfl rfl rfl (by decide) rfl (fun _ => rfl) rfl 1 rfl rfl rfl rfl hl.1 rfl (Nat.le_of_ble_eq_true rfl) dX3_takeStep_61 ⟨Nat.zero_le _, Nat.zero_le _⟩ (fun r69 _ H locs hw68 hP hD hS => ?_)
        have hP : va_P D vwCl (kX3 cB cI gc me ba rg wa sm v_im v_ei v_ha v_hb v_cy v_by v_ct v_wd) H := hP
        have hD : va_D A (kX3 cB cI gc me ba rg wa sm v_im v_ei v_ha v_hb v_cy v_by v_ct v_wd) := hD
        have hf := hf.trans (kE1 hw68)
        refine lv_istore_n (lv' := [(2, .int r69), (1, .int r2), (0, .ref gc)]) hx hb dX3_takeStep_64 rfl hl (by decide) rfl (fun ls hl => ?_)
        obtain ⟨tb, hzb, hyb⟩ := hT.2.2
        refine va_gets (v := .ref tb) hx hb hzb hS hown (hws _ mw_107) (fun _ h9 => h9) dX3_takeStep_65 ?_
        refine lv_iload_n hx hb dX3_takeStep_68 rfl (lv_at hl 0 rfl) ?_
        refine lv_sipush (v := 255) hx hb dX3_takeStep_69 (by decide) ?_
        refine lv_iand hx hb dX3_takeStep_72 ?_
        refine va_ti (v := .int (tb_base (r69 &&& (255 : Int32)).toNatClampNeg)) hx hb hyb hS (ki_ff _) rfl dX3_takeStep_73 ?_
        refine lv_topi (fun x70 ex70 => ?_)
        have hf := hf.trans (kE1 ex70)
        refine lv_istore_n (lv' := [(3, .int x70), (2, .int r69), (1, .int r2), (0, .ref gc)]) hx hb dX3_takeStep_74 rfl hl (by decide) rfl (fun ls hl => ?_)
        refine lv_iload_n hx hb dX3_takeStep_75 rfl (lv_at hl 0 rfl) ?_
        refine lv_if_ne (tgt := 81) hx hb dX3_takeStep_76 (by decide) (fun c71 => ?_) (fun c71 => ?_)
        · have hf := hf.trans (kf_eq c71)
          refine lv_aload_n hx hb dX3_takeStep_81 rfl (lv_at hl 3 rfl) ?_
          refine lv_iconst (v := 0) hx hb dX3_takeStep_82 (by decide) ?_
          refine va_put (D := D) (ci := 3) (v := .int (bI false)) (ty := .boolean) (C := RX3) (T := TX3) (N := 8) hx hb hws inlX3 tyX3 tyX3_ok nmX3 hown hK hP hD hS 0 rfl rfl 5 (by decide) (hws _ mw_106) (fun _ h9 => h9) rfl (tyX3_ok 5 (by decide)) (bI_nar _) (bI_fit _) (Nat.le_of_ble_eq_true rfl) dX3_takeStep_83 (fun H locs hP hD hS => ?_)
          have hP : va_P D vwCl (kX3 cB cI gc me ba rg wa sm v_im v_ei false v_hb v_cy v_by v_ct v_wd) H := hP
          have hD : va_D A (kX3 cB cI gc me ba rg wa sm v_im v_ei false v_hb v_cy v_by v_ct v_wd) := hD
          refine lv_aload_n hx hb dX3_takeStep_86 rfl (lv_at hl 3 rfl) ?_
          refine kc_Vv (wr := []) (As := []) (rest := []) (fun u9 => (kX3 cB cI gc me ba rg wa sm v_im v_ei false (u9.1) v_cy v_by v_ct (u9.2))) ⟨hx, hb, hml, hown, hws⟩ hK hP hD hS hA hT (c_X3_leaveOpcode l D cB cI gc me ba rg wa sm H.size v_im v_ei false v_hb v_cy v_by v_ct v_wd ) (cwV 0 hws (gw_V mw_164 mw_165 mw_166 mw_2 mw_167) rfl rfl rfl hdX3_leaveOpcode ⟨Nat.le_of_ble_eq_true rfl, Nat.le_of_ble_eq_true rfl⟩) [0, 1, 2, 3, 4, 5] [] [0, 1] [0, 1, 2, 3, 4, 5] rfl rfl rfl rfl (by decide) rfl (fun _ => rfl) rfl 0 rfl rfl rfl rfl hl.1 rfl (Nat.le_of_ble_eq_true rfl) dX3_takeStep_87 ⟨Nat.zero_le _, Nat.zero_le _⟩ (fun u9 H locs hw74 hP hD hS => ?_)
          obtain ⟨b72, b73⟩ := u9
          have hP : va_P D vwCl (kX3 cB cI gc me ba rg wa sm v_im v_ei false b72 v_cy v_by v_ct b73) H := hP
          have hD : va_D A (kX3 cB cI gc me ba rg wa sm v_im v_ei false b72 v_cy v_by v_ct b73) := hD
          have hf := hf.trans (kE2 hw74)
          refine lv_aload_n hx hb dX3_takeStep_90 rfl (lv_at hl 3 rfl) ?_
          refine va_get (D := D) (ci := 3) (v := .int (bI v_ei)) (C := RX3) (T := TX3) (N := 8) hx hb hws inlX3 hown hK hP 0 rfl rfl 4 (by decide) (hws _ mw_108) (fun _ h9 => h9) rfl dX3_takeStep_91 ?_
          refine lv_istore (lv' := [(4, .int (bI v_ei)), (3, .int x70), (2, .int r69), (1, .int r2), (0, .ref gc)]) hx hb dX3_takeStep_94 hl (by decide) rfl (fun ls hl => ?_)
          refine lv_aload_n hx hb dX3_takeStep_96 rfl (lv_at hl 4 rfl) ?_
          refine lv_iload_n hx hb dX3_takeStep_97 rfl (lv_at hl 2 rfl) ?_
          refine kc_Vi (wr := []) (As := [.int r69]) (rest := []) (fun u9 => (kX3 cB cI gc me ba rg wa sm (u9.1) (u9.2.1) (u9.2.2.1) (u9.2.2.2.1) v_cy (u9.2.2.2.2.1) (u9.2.2.2.2.2.1) (u9.2.2.2.2.2.2))) ⟨hx, hb, hml, hown, hws⟩ hK hP hD hS hA hT (c_X3_execute l D cB cI gc me ba rg wa sm H.size v_im v_ei false b72 v_cy v_by v_ct b73 r69) (cwV 1 hws (gw_V mw_169 mw_170 mw_171 mw_2 mw_172) rfl rfl rfl hdX3_execute ⟨Nat.le_of_ble_eq_true rfl, Nat.le_of_ble_eq_true rfl⟩) [0, 1, 2, 3, 4, 5] [] [0, 1] [0, 1, 2, 3, 4, 5] rfl rfl rfl rfl (by decide) rfl (fun _ => rfl) rfl 0 rfl rfl rfl rfl hl.1 rfl (Nat.le_of_ble_eq_true rfl) dX3_takeStep_98 ⟨Nat.zero_le _, Nat.zero_le _⟩ (fun r83 u9 H locs hw82 hP hD hS => ?_)
          obtain ⟨b75, b76, b77, b78, b79, b80, b81⟩ := u9
          have hP : va_P D vwCl (kX3 cB cI gc me ba rg wa sm b75 b76 b77 b78 v_cy b79 b80 b81) H := hP
          have hD : va_D A (kX3 cB cI gc me ba rg wa sm b75 b76 b77 b78 v_cy b79 b80 b81) := hD
          have hf := hf.trans (kE8 hw82)
          refine lv_istore (lv' := [(5, .int r83), (4, .int (bI v_ei)), (3, .int x70), (2, .int r69), (1, .int r2), (0, .ref gc)]) hx hb dX3_takeStep_101 hl (by decide) rfl (fun ls hl => ?_)
          refine lv_iload hx hb dX3_takeStep_103 (lv_at hl 1 rfl) ?_
          obtain ⟨TJ88, hTJ88⟩ : ∃ T9 : Bool × Bool, T9 = (kIf (kEq (bI v_ei) (0 : Int32)) (b75, b76) (kIf (kEq r69 (243 : Int32)) (b75, b76) (true, false))) := ⟨_, rfl⟩
          have J88 : ∀ (b86 : Bool) (b87 : Bool), (b86, b87) = TJ88 → ∀ (H : Heap) (locs : List Loc) (ls : Array Slot), lv_has ls 6 [(5, .int r83), (4, .int (bI v_ei)), (3, .int x70), (2, .int r69), (1, .int r2), (0, .ref gc)] → va_P D vwCl (kX3 cB cI gc me ba rg wa sm b86 b87 b77 b78 v_cy b79 b80 b81) H → va_D A (kX3 cB cI gc me ba rg wa sm b86 b87 b77 b78 v_cy b79 b80 b81) → va_S A s.heap H locs → W p l e (headSpec wwX3_takeStep rmX3_takeStep).room s m ([.ref gc] : List Value).toArray below meth c H locs 0 0 Q (F0 m 125 ls []) := by
            intro b86 b87 eJ88 H locs ls hl hP hD hS
            have hf := hf.trans (kE2 (eJ88.trans hTJ88))
            refine lv_aload_n hx hb dX3_takeStep_125 rfl (lv_at hl 5 rfl) ?_
            refine lv_iload_n hx hb dX3_takeStep_126 rfl (lv_at hl 2 rfl) ?_
            refine lv_iload hx hb dX3_takeStep_127 (lv_at hl 0 rfl) ?_
            refine lv_iadd hx hb dX3_takeStep_129 ?_
            refine kc_Vv (wr := []) (As := [.int (x70 + r83)]) (rest := []) (fun u9 => (kX3 cB cI gc me ba rg wa sm b86 b87 b77 b78 (u9.1) (u9.2.1) (u9.2.2) b81)) ⟨hx, hb, hml, hown, hws⟩ hK hP hD hS hA hT (c_X3_pass l D cB cI gc me ba rg wa sm H.size b86 b87 b77 b78 v_cy b79 b80 b81 (x70 + r83)) (cwV 1 hws (gw_V mw_143 mw_144 mw_145 mw_2 mw_146) rfl rfl rfl hdX3_pass ⟨Nat.le_of_ble_eq_true rfl, Nat.le_of_ble_eq_true rfl⟩) [0, 1, 2, 3, 4, 5] [] [0, 1] [0, 1, 2, 3, 4, 5] rfl rfl rfl rfl (by decide) rfl (fun _ => rfl) rfl 0 rfl rfl rfl rfl hl.1 rfl (Nat.le_of_ble_eq_true rfl) dX3_takeStep_130 ⟨Nat.zero_le _, Nat.zero_le _⟩ (fun u9 H locs hw92 hP hD hS => ?_)
            obtain ⟨b89, b90, b91⟩ := u9
            have hP : va_P D vwCl (kX3 cB cI gc me ba rg wa sm b86 b87 b77 b78 b89 b90 b91 b81) H := hP
            have hD : va_D A (kX3 cB cI gc me ba rg wa sm b86 b87 b77 b78 b89 b90 b91 b81) := hD
            have hf := hf.trans (kE3 hw92)
            refine lv_iconst (v := 0) hx hb dX3_takeStep_133 (by decide) ?_
            rw [← hQ]
            exact W.iret (v := (0 : Int32)) hx hb hr (fun t ht hW => ⟨⟨(0 : Int32), (b86, b87, b77, b78, b89, b90, b91, b81), rfl, hf.symm, by rw [ht]; exact hP, va_K.moved hW.alike hK, hD⟩, hS.F ht⟩) hS.2.2 dX3_takeStep_134
          have hf := hTJ88
          refine lv_if_eq (tgt := 125) hx hb dX3_takeStep_105 (by decide) (fun c84 => ?_) (fun c84 => ?_)
          · have hf := hf.trans (kt_eq c84)
            exact J88 b75 b76 hf.symm H locs ls (lv_sub hl [0, 1, 2, 3, 4, 5] rfl) hP hD hS
          · have hf := hf.trans (kf_eq c84)
            refine lv_iload_n hx hb dX3_takeStep_108 rfl (lv_at hl 3 rfl) ?_
            refine lv_sipush (v := 243) hx hb dX3_takeStep_109 (by decide) ?_
            refine lv_icmp_eq (tgt := 125) hx hb dX3_takeStep_112 (by decide) (fun c85 => ?_) (fun c85 => ?_)
            · have hf := hf.trans (kt_eq c85)
              exact J88 b75 b76 hf.symm H locs ls (lv_sub hl [0, 1, 2, 3, 4, 5] rfl) hP hD hS
            · have hf := hf.trans (kf_eq c85)
              refine lv_aload_n hx hb dX3_takeStep_115 rfl (lv_at hl 5 rfl) ?_
              refine lv_iconst (v := 1) hx hb dX3_takeStep_116 (by decide) ?_
              refine va_put (D := D) (ci := 3) (v := .int (bI true)) (ty := .boolean) (C := RX3) (T := TX3) (N := 8) hx hb hws inlX3 tyX3 tyX3_ok nmX3 hown hK hP hD hS 0 rfl rfl 3 (by decide) (hws _ mw_105) (fun _ h9 => h9) rfl (tyX3_ok 3 (by decide)) (bI_nar _) (bI_fit _) (Nat.le_of_ble_eq_true rfl) dX3_takeStep_117 (fun H locs hP hD hS => ?_)
              have hP : va_P D vwCl (kX3 cB cI gc me ba rg wa sm true b76 b77 b78 v_cy b79 b80 b81) H := hP
              have hD : va_D A (kX3 cB cI gc me ba rg wa sm true b76 b77 b78 v_cy b79 b80 b81) := hD
              refine lv_aload_n hx hb dX3_takeStep_120 rfl (lv_at hl 5 rfl) ?_
              refine lv_iconst (v := 0) hx hb dX3_takeStep_121 (by decide) ?_
              refine va_put (D := D) (ci := 3) (v := .int (bI false)) (ty := .boolean) (C := RX3) (T := TX3) (N := 8) hx hb hws inlX3 tyX3 tyX3_ok nmX3 hown hK hP hD hS 0 rfl rfl 4 (by decide) (hws _ mw_108) (fun _ h9 => h9) rfl (tyX3_ok 4 (by decide)) (bI_nar _) (bI_fit _) (Nat.le_of_ble_eq_true rfl) dX3_takeStep_122 (fun H locs hP hD hS => ?_)
              have hP : va_P D vwCl (kX3 cB cI gc me ba rg wa sm true false b77 b78 v_cy b79 b80 b81) H := hP
              have hD : va_D A (kX3 cB cI gc me ba rg wa sm true false b77 b78 v_cy b79 b80 b81) := hD
              exact J88 true false hf.symm H locs ls (lv_sub hl [0, 1, 2, 3, 4, 5] rfl) hP hD hS
        · have hf := hf.trans (kt_eq c71)
          refine lv_iconst (v := 2) hx hb dX3_takeStep_79 (by decide) ?_
          rw [← hQ]
          exact W.iret (v := (2 : Int32)) hx hb hr (fun t ht hW => ⟨⟨(2 : Int32), (v_im, v_ei, v_ha, v_hb, v_cy, v_by, v_ct, v_wd), rfl, hf.symm, by rw [ht]; exact hP, va_K.moved hW.alike hK, hD⟩, hS.F ht⟩) hS.2.2 dX3_takeStep_80
      · have hf := hf.trans (kf_eq c65)
        refine lv_iload_n hx hb dX3_takeStep_38 rfl (lv_at hl 0 rfl) ?_
        refine lv_if_ne (tgt := 49) hx hb dX3_takeStep_39 (by decide) (fun c93 => ?_) (fun c93 => ?_)
        · have hf := hf.trans (kf_eq c93)
          refine lv_aload_n hx hb dX3_takeStep_49 rfl (lv_at hl 1 rfl) ?_
          refine va_get (D := D) (ci := 3) (v := .ref me) (C := RX3) (T := TX3) (N := 8) hx hb hws inlX3 hown hK hP 0 rfl rfl 0 (by decide) (hws _ mw_15) (fun _ h9 => h9) rfl dX3_takeStep_50 ?_
          refine lv_aload_n hx hb dX3_takeStep_53 rfl (lv_at hl 1 rfl) ?_
          refine va_get (D := D) (ci := 3) (v := .ref rg) (C := RX3) (T := TX3) (N := 8) hx hb hws inlX3 hown hK hP 0 rfl rfl 1 (by decide) (hws _ mw_20) (fun _ h9 => h9) rfl dX3_takeStep_54 ?_
          refine lv_iconst (v := 5) hx hb dX3_takeStep_57 (by decide) ?_
          refine kc_Vi (wr := [(gc, .inr (3, [.ref me, .ref rg, .ref sm, .int (bI v_im), .int (bI v_ei), .int (bI v_ha), .int (bI v_hb), .int v_cy])), (me, .inr (0, [.ref ba, .int v_ct])), (ba, .inl (cB, 65536, .inl v_by)), (sm, .inr (2, [.ref rg]))]) (As := [.int (5 : Int32)]) (rest := [.ref me]) (fun _ => (kX3 cB cI gc me ba rg wa sm v_im v_ei v_ha v_hb v_cy v_by v_ct v_wd)) ⟨hx, hb, hml, hown, hws⟩ hK hP hD hS hA hT (c_X1_word l D cI rg wa H.size v_wd (5 : Int32)) (cwV 1 hws (gw_V mw_123 mw_124 mw_125 mw_32 mw_126) rfl rfl rfl hdX1_word ⟨Nat.le_of_ble_eq_true rfl, Nat.le_of_ble_eq_true rfl⟩) [3, 4] [0, 1, 2, 5] [1] [0, 1, 2, 4, 5, 3] rfl rfl rfl rfl (by decide) rfl (fun _ => rfl) rfl 3 rfl rfl rfl rfl hl.1 rfl (Nat.le_of_ble_eq_true rfl) dX3_takeStep_58 ⟨Nat.zero_le _, Nat.zero_le _⟩ (fun r95 _ H locs hw94 hP hD hS => ?_)
          have hP : va_P D vwCl (kX3 cB cI gc me ba rg wa sm v_im v_ei v_ha v_hb v_cy v_by v_ct v_wd) H := hP
          have hD : va_D A (kX3 cB cI gc me ba rg wa sm v_im v_ei v_ha v_hb v_cy v_by v_ct v_wd) := hD
          have hf := hf.trans (kE1 hw94)
          refine kc_Vi (wr := [(gc, .inr (3, [.ref me, .ref rg, .ref sm, .int (bI v_im), .int (bI v_ei), .int (bI v_ha), .int (bI v_hb), .int v_cy])), (rg, .inr (1, [.ref wa])), (wa, .inl (cI, 6, .inl v_wd)), (sm, .inr (2, [.ref rg]))]) (As := [.int r95]) (rest := []) (fun _ => (kX3 cB cI gc me ba rg wa sm v_im v_ei v_ha v_hb v_cy v_by v_ct v_wd)) ⟨hx, hb, hml, hown, hws⟩ hK hP hD hS hA hT (c_X0_at l D cB me ba H.size v_by v_ct r95) (cwV 1 hws (gw_V mw_85 mw_86 mw_87 mw_14 mw_88) rfl rfl rfl hdX0_at ⟨Nat.le_of_ble_eq_true rfl, Nat.le_of_ble_eq_true rfl⟩) [1, 2] [0, 3, 4, 5] [0] [0, 4, 5, 1, 2, 3] rfl rfl rfl rfl (by decide) rfl (fun _ => rfl) rfl 1 rfl rfl rfl rfl hl.1 rfl (Nat.le_of_ble_eq_true rfl) dX3_takeStep_61 ⟨Nat.zero_le _, Nat.zero_le _⟩ (fun r97 _ H locs hw96 hP hD hS => ?_)
          have hP : va_P D vwCl (kX3 cB cI gc me ba rg wa sm v_im v_ei v_ha v_hb v_cy v_by v_ct v_wd) H := hP
          have hD : va_D A (kX3 cB cI gc me ba rg wa sm v_im v_ei v_ha v_hb v_cy v_by v_ct v_wd) := hD
          have hf := hf.trans (kE1 hw96)
          refine lv_istore_n (lv' := [(2, .int r97), (1, .int r2), (0, .ref gc)]) hx hb dX3_takeStep_64 rfl hl (by decide) rfl (fun ls hl => ?_)
          obtain ⟨tb, hzb, hyb⟩ := hT.2.2
          refine va_gets (v := .ref tb) hx hb hzb hS hown (hws _ mw_107) (fun _ h9 => h9) dX3_takeStep_65 ?_
          refine lv_iload_n hx hb dX3_takeStep_68 rfl (lv_at hl 0 rfl) ?_
          refine lv_sipush (v := 255) hx hb dX3_takeStep_69 (by decide) ?_
          refine lv_iand hx hb dX3_takeStep_72 ?_
          refine va_ti (v := .int (tb_base (r97 &&& (255 : Int32)).toNatClampNeg)) hx hb hyb hS (ki_ff _) rfl dX3_takeStep_73 ?_
          refine lv_topi (fun x98 ex98 => ?_)
          have hf := hf.trans (kE1 ex98)
          refine lv_istore_n (lv' := [(3, .int x98), (2, .int r97), (1, .int r2), (0, .ref gc)]) hx hb dX3_takeStep_74 rfl hl (by decide) rfl (fun ls hl => ?_)
          refine lv_iload_n hx hb dX3_takeStep_75 rfl (lv_at hl 0 rfl) ?_
          refine lv_if_ne (tgt := 81) hx hb dX3_takeStep_76 (by decide) (fun c99 => ?_) (fun c99 => ?_)
          · have hf := hf.trans (kf_eq c99)
            refine lv_aload_n hx hb dX3_takeStep_81 rfl (lv_at hl 3 rfl) ?_
            refine lv_iconst (v := 0) hx hb dX3_takeStep_82 (by decide) ?_
            refine va_put (D := D) (ci := 3) (v := .int (bI false)) (ty := .boolean) (C := RX3) (T := TX3) (N := 8) hx hb hws inlX3 tyX3 tyX3_ok nmX3 hown hK hP hD hS 0 rfl rfl 5 (by decide) (hws _ mw_106) (fun _ h9 => h9) rfl (tyX3_ok 5 (by decide)) (bI_nar _) (bI_fit _) (Nat.le_of_ble_eq_true rfl) dX3_takeStep_83 (fun H locs hP hD hS => ?_)
            have hP : va_P D vwCl (kX3 cB cI gc me ba rg wa sm v_im v_ei false v_hb v_cy v_by v_ct v_wd) H := hP
            have hD : va_D A (kX3 cB cI gc me ba rg wa sm v_im v_ei false v_hb v_cy v_by v_ct v_wd) := hD
            refine lv_aload_n hx hb dX3_takeStep_86 rfl (lv_at hl 3 rfl) ?_
            refine kc_Vv (wr := []) (As := []) (rest := []) (fun u9 => (kX3 cB cI gc me ba rg wa sm v_im v_ei false (u9.1) v_cy v_by v_ct (u9.2))) ⟨hx, hb, hml, hown, hws⟩ hK hP hD hS hA hT (c_X3_leaveOpcode l D cB cI gc me ba rg wa sm H.size v_im v_ei false v_hb v_cy v_by v_ct v_wd ) (cwV 0 hws (gw_V mw_164 mw_165 mw_166 mw_2 mw_167) rfl rfl rfl hdX3_leaveOpcode ⟨Nat.le_of_ble_eq_true rfl, Nat.le_of_ble_eq_true rfl⟩) [0, 1, 2, 3, 4, 5] [] [0, 1] [0, 1, 2, 3, 4, 5] rfl rfl rfl rfl (by decide) rfl (fun _ => rfl) rfl 0 rfl rfl rfl rfl hl.1 rfl (Nat.le_of_ble_eq_true rfl) dX3_takeStep_87 ⟨Nat.zero_le _, Nat.zero_le _⟩ (fun u9 H locs hw102 hP hD hS => ?_)
            obtain ⟨b100, b101⟩ := u9
            have hP : va_P D vwCl (kX3 cB cI gc me ba rg wa sm v_im v_ei false b100 v_cy v_by v_ct b101) H := hP
            have hD : va_D A (kX3 cB cI gc me ba rg wa sm v_im v_ei false b100 v_cy v_by v_ct b101) := hD
            have hf := hf.trans (kE2 hw102)
            refine lv_aload_n hx hb dX3_takeStep_90 rfl (lv_at hl 3 rfl) ?_
            refine va_get (D := D) (ci := 3) (v := .int (bI v_ei)) (C := RX3) (T := TX3) (N := 8) hx hb hws inlX3 hown hK hP 0 rfl rfl 4 (by decide) (hws _ mw_108) (fun _ h9 => h9) rfl dX3_takeStep_91 ?_
            refine lv_istore (lv' := [(4, .int (bI v_ei)), (3, .int x98), (2, .int r97), (1, .int r2), (0, .ref gc)]) hx hb dX3_takeStep_94 hl (by decide) rfl (fun ls hl => ?_)
            refine lv_aload_n hx hb dX3_takeStep_96 rfl (lv_at hl 4 rfl) ?_
            refine lv_iload_n hx hb dX3_takeStep_97 rfl (lv_at hl 2 rfl) ?_
            refine kc_Vi (wr := []) (As := [.int r97]) (rest := []) (fun u9 => (kX3 cB cI gc me ba rg wa sm (u9.1) (u9.2.1) (u9.2.2.1) (u9.2.2.2.1) v_cy (u9.2.2.2.2.1) (u9.2.2.2.2.2.1) (u9.2.2.2.2.2.2))) ⟨hx, hb, hml, hown, hws⟩ hK hP hD hS hA hT (c_X3_execute l D cB cI gc me ba rg wa sm H.size v_im v_ei false b100 v_cy v_by v_ct b101 r97) (cwV 1 hws (gw_V mw_169 mw_170 mw_171 mw_2 mw_172) rfl rfl rfl hdX3_execute ⟨Nat.le_of_ble_eq_true rfl, Nat.le_of_ble_eq_true rfl⟩) [0, 1, 2, 3, 4, 5] [] [0, 1] [0, 1, 2, 3, 4, 5] rfl rfl rfl rfl (by decide) rfl (fun _ => rfl) rfl 0 rfl rfl rfl rfl hl.1 rfl (Nat.le_of_ble_eq_true rfl) dX3_takeStep_98 ⟨Nat.zero_le _, Nat.zero_le _⟩ (fun r111 u9 H locs hw110 hP hD hS => ?_)
            obtain ⟨b103, b104, b105, b106, b107, b108, b109⟩ := u9
            have hP : va_P D vwCl (kX3 cB cI gc me ba rg wa sm b103 b104 b105 b106 v_cy b107 b108 b109) H := hP
            have hD : va_D A (kX3 cB cI gc me ba rg wa sm b103 b104 b105 b106 v_cy b107 b108 b109) := hD
            have hf := hf.trans (kE8 hw110)
            refine lv_istore (lv' := [(5, .int r111), (4, .int (bI v_ei)), (3, .int x98), (2, .int r97), (1, .int r2), (0, .ref gc)]) hx hb dX3_takeStep_101 hl (by decide) rfl (fun ls hl => ?_)
            refine lv_iload hx hb dX3_takeStep_103 (lv_at hl 1 rfl) ?_
            obtain ⟨TJ116, hTJ116⟩ : ∃ T9 : Bool × Bool, T9 = (kIf (kEq (bI v_ei) (0 : Int32)) (b103, b104) (kIf (kEq r97 (243 : Int32)) (b103, b104) (true, false))) := ⟨_, rfl⟩
            have J116 : ∀ (b114 : Bool) (b115 : Bool), (b114, b115) = TJ116 → ∀ (H : Heap) (locs : List Loc) (ls : Array Slot), lv_has ls 6 [(5, .int r111), (4, .int (bI v_ei)), (3, .int x98), (2, .int r97), (1, .int r2), (0, .ref gc)] → va_P D vwCl (kX3 cB cI gc me ba rg wa sm b114 b115 b105 b106 v_cy b107 b108 b109) H → va_D A (kX3 cB cI gc me ba rg wa sm b114 b115 b105 b106 v_cy b107 b108 b109) → va_S A s.heap H locs → W p l e (headSpec wwX3_takeStep rmX3_takeStep).room s m ([.ref gc] : List Value).toArray below meth c H locs 0 0 Q (F0 m 125 ls []) := by
              intro b114 b115 eJ116 H locs ls hl hP hD hS
              have hf := hf.trans (kE2 (eJ116.trans hTJ116))
              refine lv_aload_n hx hb dX3_takeStep_125 rfl (lv_at hl 5 rfl) ?_
              refine lv_iload_n hx hb dX3_takeStep_126 rfl (lv_at hl 2 rfl) ?_
              refine lv_iload hx hb dX3_takeStep_127 (lv_at hl 0 rfl) ?_
              refine lv_iadd hx hb dX3_takeStep_129 ?_
              refine kc_Vv (wr := []) (As := [.int (x98 + r111)]) (rest := []) (fun u9 => (kX3 cB cI gc me ba rg wa sm b114 b115 b105 b106 (u9.1) (u9.2.1) (u9.2.2) b109)) ⟨hx, hb, hml, hown, hws⟩ hK hP hD hS hA hT (c_X3_pass l D cB cI gc me ba rg wa sm H.size b114 b115 b105 b106 v_cy b107 b108 b109 (x98 + r111)) (cwV 1 hws (gw_V mw_143 mw_144 mw_145 mw_2 mw_146) rfl rfl rfl hdX3_pass ⟨Nat.le_of_ble_eq_true rfl, Nat.le_of_ble_eq_true rfl⟩) [0, 1, 2, 3, 4, 5] [] [0, 1] [0, 1, 2, 3, 4, 5] rfl rfl rfl rfl (by decide) rfl (fun _ => rfl) rfl 0 rfl rfl rfl rfl hl.1 rfl (Nat.le_of_ble_eq_true rfl) dX3_takeStep_130 ⟨Nat.zero_le _, Nat.zero_le _⟩ (fun u9 H locs hw120 hP hD hS => ?_)
              obtain ⟨b117, b118, b119⟩ := u9
              have hP : va_P D vwCl (kX3 cB cI gc me ba rg wa sm b114 b115 b105 b106 b117 b118 b119 b109) H := hP
              have hD : va_D A (kX3 cB cI gc me ba rg wa sm b114 b115 b105 b106 b117 b118 b119 b109) := hD
              have hf := hf.trans (kE3 hw120)
              refine lv_iconst (v := 0) hx hb dX3_takeStep_133 (by decide) ?_
              rw [← hQ]
              exact W.iret (v := (0 : Int32)) hx hb hr (fun t ht hW => ⟨⟨(0 : Int32), (b114, b115, b105, b106, b117, b118, b119, b109), rfl, hf.symm, by rw [ht]; exact hP, va_K.moved hW.alike hK, hD⟩, hS.F ht⟩) hS.2.2 dX3_takeStep_134
            have hf := hTJ116
            refine lv_if_eq (tgt := 125) hx hb dX3_takeStep_105 (by decide) (fun c112 => ?_) (fun c112 => ?_)
            · have hf := hf.trans (kt_eq c112)
              exact J116 b103 b104 hf.symm H locs ls (lv_sub hl [0, 1, 2, 3, 4, 5] rfl) hP hD hS
            · have hf := hf.trans (kf_eq c112)
              refine lv_iload_n hx hb dX3_takeStep_108 rfl (lv_at hl 3 rfl) ?_
              refine lv_sipush (v := 243) hx hb dX3_takeStep_109 (by decide) ?_
              refine lv_icmp_eq (tgt := 125) hx hb dX3_takeStep_112 (by decide) (fun c113 => ?_) (fun c113 => ?_)
              · have hf := hf.trans (kt_eq c113)
                exact J116 b103 b104 hf.symm H locs ls (lv_sub hl [0, 1, 2, 3, 4, 5] rfl) hP hD hS
              · have hf := hf.trans (kf_eq c113)
                refine lv_aload_n hx hb dX3_takeStep_115 rfl (lv_at hl 5 rfl) ?_
                refine lv_iconst (v := 1) hx hb dX3_takeStep_116 (by decide) ?_
                refine va_put (D := D) (ci := 3) (v := .int (bI true)) (ty := .boolean) (C := RX3) (T := TX3) (N := 8) hx hb hws inlX3 tyX3 tyX3_ok nmX3 hown hK hP hD hS 0 rfl rfl 3 (by decide) (hws _ mw_105) (fun _ h9 => h9) rfl (tyX3_ok 3 (by decide)) (bI_nar _) (bI_fit _) (Nat.le_of_ble_eq_true rfl) dX3_takeStep_117 (fun H locs hP hD hS => ?_)
                have hP : va_P D vwCl (kX3 cB cI gc me ba rg wa sm true b104 b105 b106 v_cy b107 b108 b109) H := hP
                have hD : va_D A (kX3 cB cI gc me ba rg wa sm true b104 b105 b106 v_cy b107 b108 b109) := hD
                refine lv_aload_n hx hb dX3_takeStep_120 rfl (lv_at hl 5 rfl) ?_
                refine lv_iconst (v := 0) hx hb dX3_takeStep_121 (by decide) ?_
                refine va_put (D := D) (ci := 3) (v := .int (bI false)) (ty := .boolean) (C := RX3) (T := TX3) (N := 8) hx hb hws inlX3 tyX3 tyX3_ok nmX3 hown hK hP hD hS 0 rfl rfl 4 (by decide) (hws _ mw_108) (fun _ h9 => h9) rfl (tyX3_ok 4 (by decide)) (bI_nar _) (bI_fit _) (Nat.le_of_ble_eq_true rfl) dX3_takeStep_122 (fun H locs hP hD hS => ?_)
                have hP : va_P D vwCl (kX3 cB cI gc me ba rg wa sm true false b105 b106 v_cy b107 b108 b109) H := hP
                have hD : va_D A (kX3 cB cI gc me ba rg wa sm true false b105 b106 v_cy b107 b108 b109) := hD
                exact J116 true false hf.symm H locs ls (lv_sub hl [0, 1, 2, 3, 4, 5] rfl) hP hD hS
          · have hf := hf.trans (kt_eq c99)
            refine lv_iconst (v := 2) hx hb dX3_takeStep_79 (by decide) ?_
            rw [← hQ]
            exact W.iret (v := (2 : Int32)) hx hb hr (fun t ht hW => ⟨⟨(2 : Int32), (v_im, v_ei, v_ha, v_hb, v_cy, v_by, v_ct, v_wd), rfl, hf.symm, by rw [ht]; exact hP, va_K.moved hW.alike hK, hD⟩, hS.F ht⟩) hS.2.2 dX3_takeStep_80
        · have hf := hf.trans (kt_eq c93)
          refine lv_aload_n hx hb dX3_takeStep_42 rfl (lv_at hl 1 rfl) ?_
          refine lv_iconst (v := 1) hx hb dX3_takeStep_43 (by decide) ?_
          refine kc_Vv (wr := []) (As := [.int (1 : Int32)]) (rest := []) (fun u9 => (kX3 cB cI gc me ba rg wa sm v_im v_ei v_ha v_hb (u9.1) (u9.2.1) (u9.2.2) v_wd)) ⟨hx, hb, hml, hown, hws⟩ hK hP hD hS hA hT (c_X3_pass l D cB cI gc me ba rg wa sm H.size v_im v_ei v_ha v_hb v_cy v_by v_ct v_wd (1 : Int32)) (cwV 1 hws (gw_V mw_143 mw_144 mw_145 mw_2 mw_146) rfl rfl rfl hdX3_pass ⟨Nat.le_of_ble_eq_true rfl, Nat.le_of_ble_eq_true rfl⟩) [0, 1, 2, 3, 4, 5] [] [0, 1] [0, 1, 2, 3, 4, 5] rfl rfl rfl rfl (by decide) rfl (fun _ => rfl) rfl 0 rfl rfl rfl rfl hl.1 rfl (Nat.le_of_ble_eq_true rfl) dX3_takeStep_44 ⟨Nat.zero_le _, Nat.zero_le _⟩ (fun u9 H locs hw124 hP hD hS => ?_)
          obtain ⟨b121, b122, b123⟩ := u9
          have hP : va_P D vwCl (kX3 cB cI gc me ba rg wa sm v_im v_ei v_ha v_hb b121 b122 b123 v_wd) H := hP
          have hD : va_D A (kX3 cB cI gc me ba rg wa sm v_im v_ei v_ha v_hb b121 b122 b123 v_wd) := hD
          have hf := hf.trans (kE3 hw124)
          refine lv_iconst (v := 1) hx hb dX3_takeStep_47 (by decide) ?_
          rw [← hQ]
          exact W.iret (v := (1 : Int32)) hx hb hr (fun t ht hW => ⟨⟨(1 : Int32), (v_im, v_ei, v_ha, v_hb, b121, b122, b123, v_wd), rfl, hf.symm, by rw [ht]; exact hP, va_K.moved hW.alike hK, hD⟩, hS.F ht⟩) hS.2.2 dX3_takeStep_48
    · have hf := hf.trans (kf_eq c64)
      refine lv_aload_n hx hb dX3_takeStep_19 rfl (lv_at hl 1 rfl) ?_
      refine lv_iload_n hx hb dX3_takeStep_20 rfl (lv_at hl 0 rfl) ?_
      refine kc_Vv (wr := []) (As := [.int r2]) (rest := []) (fun u9 => (kX3 cB cI gc me ba rg wa sm (u9.1) v_ei (u9.2.1) v_hb v_cy (u9.2.2.1) (u9.2.2.2.1) (u9.2.2.2.2))) ⟨hx, hb, hml, hown, hws⟩ hK hP hD hS hA hT (c_X3_dispatch l D cB cI gc me ba rg wa sm H.size v_im v_ei v_ha v_hb v_cy v_by v_ct v_wd r2) (cwV 1 hws (gw_V mw_115 mw_116 mw_117 mw_2 mw_118) rfl rfl rfl hdX3_dispatch ⟨Nat.le_of_ble_eq_true rfl, Nat.le_of_ble_eq_true rfl⟩) [0, 1, 2, 3, 4, 5] [] [0, 1] [0, 1, 2, 3, 4, 5] rfl rfl rfl rfl (by decide) rfl (fun _ => rfl) rfl 0 rfl rfl rfl rfl hl.1 rfl (Nat.le_of_ble_eq_true rfl) dX3_takeStep_21 ⟨Nat.zero_le _, Nat.zero_le _⟩ (fun u9 H locs hw130 hP hD hS => ?_)
      obtain ⟨b125, b126, b127, b128, b129⟩ := u9
      have hP : va_P D vwCl (kX3 cB cI gc me ba rg wa sm b125 v_ei b126 v_hb v_cy b127 b128 b129) H := hP
      have hD : va_D A (kX3 cB cI gc me ba rg wa sm b125 v_ei b126 v_hb v_cy b127 b128 b129) := hD
      have hf := hf.trans (kE5 hw130)
      refine lv_aload_n hx hb dX3_takeStep_24 rfl (lv_at hl 1 rfl) ?_
      refine lv_iconst (v := 5) hx hb dX3_takeStep_25 (by decide) ?_
      refine kc_Vv (wr := []) (As := [.int (5 : Int32)]) (rest := []) (fun u9 => (kX3 cB cI gc me ba rg wa sm b125 v_ei b126 v_hb (u9.1) (u9.2.1) (u9.2.2) b129)) ⟨hx, hb, hml, hown, hws⟩ hK hP hD hS hA hT (c_X3_pass l D cB cI gc me ba rg wa sm H.size b125 v_ei b126 v_hb v_cy b127 b128 b129 (5 : Int32)) (cwV 1 hws (gw_V mw_143 mw_144 mw_145 mw_2 mw_146) rfl rfl rfl hdX3_pass ⟨Nat.le_of_ble_eq_true rfl, Nat.le_of_ble_eq_true rfl⟩) [0, 1, 2, 3, 4, 5] [] [0, 1] [0, 1, 2, 3, 4, 5] rfl rfl rfl rfl (by decide) rfl (fun _ => rfl) rfl 0 rfl rfl rfl rfl hl.1 rfl (Nat.le_of_ble_eq_true rfl) dX3_takeStep_26 ⟨Nat.zero_le _, Nat.zero_le _⟩ (fun u9 H locs hw134 hP hD hS => ?_)
      obtain ⟨b131, b132, b133⟩ := u9
      have hP : va_P D vwCl (kX3 cB cI gc me ba rg wa sm b125 v_ei b126 v_hb b131 b132 b133 b129) H := hP
      have hD : va_D A (kX3 cB cI gc me ba rg wa sm b125 v_ei b126 v_hb b131 b132 b133 b129) := hD
      have hf := hf.trans (kE3 hw134)
      refine lv_iconst (v := 0) hx hb dX3_takeStep_29 (by decide) ?_
      rw [← hQ]
      exact W.iret (v := (0 : Int32)) hx hb hr (fun t ht hW => ⟨⟨(0 : Int32), (b125, v_ei, b126, v_hb, b131, b132, b133, b129), rfl, hf.symm, by rw [ht]; exact hP, va_K.moved hW.alike hK, hD⟩, hS.F ht⟩) hS.2.2 dX3_takeStep_30
def fX3_step (v_im : Bool) (v_ei : Bool) (v_ha : Bool) (v_hb : Bool) (v_cy : Int32) (v_by : Nat → Int32) (v_ct : Int32) (v_wd : Nat → Int32)  : Int32 × Bool × Bool × Bool × Bool × Int32 × (Nat → Int32) × Int32 × (Nat → Int32) := (kU9 (fX3_takeStep v_im v_ei v_ha v_hb v_cy v_by v_ct v_wd) (fun (r10 : Int32) (b1 : Bool) (b2 : Bool) (b3 : Bool) (b4 : Bool) (b5 : Int32) (b6 : Nat → Int32) (b7 : Int32) (b8 : Nat → Int32) => (r10, b1, b2, b3, b4, b5, b6, b7, b8)))
def rmX3_step : Room := { frames := 6, cells := 0, slots := 0, locals := 143 }
def wwX3_step : List Cond := Cond.code yX3_step cX3_step 1 (some .int) :: wsL_law
theorem hdX3_step : yX3_step.cls = RX3 ∧ yX3_step.cls ≠ "java/lang/invoke/MethodHandle" ∧ yX3_step.cls ≠ "java/lang/invoke/VarHandle" ∧ (parseMethodDescriptor yX3_step.desc).map (fun d => d.parameters.length) = some 0 := by decide +kernel
set_option maxHeartbeats 4000000 in
set_option maxRecDepth 100000 in
theorem c_X3_step (l : Launch) (D : va_G) (cB : ClassId) (cI : ClassId) (gc me ba rg wa sm sz : Nat) (v_im : Bool) (v_ei : Bool) (v_ha : Bool) (v_hb : Bool) (v_cy : Int32) (v_by : Nat → Int32) (v_ct : Int32) (v_wd : Nat → Int32)   : Met l yX3_step wwX3_step rmX3_step (va_Pc [.ref gc] (kp D (kX3 cB cI gc me ba rg wa sm v_im v_ei v_ha v_hb v_cy v_by v_ct v_wd) [(cB, .byte), (cI, .int)] sz)) (va_Qi (fun (r : Int32) (u9 : Bool × Bool × Bool × Bool × Int32 × (Nat → Int32) × Int32 × (Nat → Int32)) => (r, u9) = fX3_step v_im v_ei v_ha v_hb v_cy v_by v_ct v_wd) (fun u9 t => kq D (kX3 cB cI gc me ba rg wa sm (u9.1) (u9.2.1) (u9.2.2.1) (u9.2.2.2.1) (u9.2.2.2.2.1) (u9.2.2.2.2.2.1) (u9.2.2.2.2.2.2.1) (u9.2.2.2.2.2.2.2)) [(cB, .byte), (cI, .int)] (va_A (kX3 cB cI gc me ba rg wa sm v_im v_ei v_ha v_hb v_cy v_by v_ct v_wd) sz) t) (va_A (kX3 cB cI gc me ba rg wa sm v_im v_ei v_ha v_hb v_cy v_by v_ct v_wd) sz)) 0 0 (va_A (kX3 cB cI gc me ba rg wa sm v_im v_ei v_ha v_hb v_cy v_by v_ct v_wd) sz) := by
  refine Met.ofW (cc := cX3_step) (maxL := 1) (ret := (some .int)) (by decide) rfl ?_
  intro p e s m args below meth c s₁ B hml hv
  obtain ⟨rfl, hsz, hP, hK, hD0, hT⟩ := hv
  have hx := B.exec
  have hb := B.bytes
  have hr := B.returns
  have hts := atoms_spec (ws := wwX3_step) B.pre
  have hws : ∀ w ∈ wsL_law, w.before _ s = true := fun w h => hts w (List.mem_cons_of_mem _ h)
  have hown : s.vm.findClass RX3 = some m.cls := findClass_of_methodNamed B.named
  have hlocks := B.notSynchronized
  subst hsz
  have hD := hD0.self (sz := s.heap.size)
  generalize hAe : va_A (kX3 cB cI gc me ba rg wa sm v_im v_ei v_ha v_hb v_cy v_by v_ct v_wd) s.heap.size = A at hD hT ⊢
  have hA : ∀ q : Nat, s.heap.size ≤ q → A q := fun q h => by rw [← hAe]; exact Or.inr h
  have hS : va_S A s.heap s.heap [] := va_S.rf
  have hl := lv_entry ([.ref gc]) (n := 1) (Nat.le_of_ble_eq_true rfl)
  rw [lg_entry_eq]
  generalize (lg_sl ([.ref gc]) ++ List.replicate (1 - (lg_sl ([.ref gc])).length) Slot.unset).toArray = ls at hl ⊢
  have hl : lv_has ls 1 [(0, .ref gc)] := hl
  generalize hQ : MQ _ _ _ _ _ _ _ = Q
  obtain ⟨H, hHe⟩ : ∃ H : Heap, H = s.heap := ⟨_, rfl⟩
  obtain ⟨locs, hle⟩ : ∃ L : List Loc, L = [] := ⟨_, rfl⟩
  have hP : va_P D vwCl (kX3 cB cI gc me ba rg wa sm v_im v_ei v_ha v_hb v_cy v_by v_ct v_wd) H := by rw [hHe]; exact hP
  have hS : va_S A s.heap H locs := by rw [hHe, hle]; exact hS
  refine kw_start hHe.symm hle.symm ?_
  have hf : fX3_step v_im v_ei v_ha v_hb v_cy v_by v_ct v_wd = fX3_step v_im v_ei v_ha v_hb v_cy v_by v_ct v_wd := rfl
  refine lv_aload_n hx hb dX3_step_0 rfl (lv_at hl 0 rfl) ?_
  refine kc_Vi (wr := []) (As := []) (rest := []) (fun u9 => (kX3 cB cI gc me ba rg wa sm (u9.1) (u9.2.1) (u9.2.2.1) (u9.2.2.2.1) (u9.2.2.2.2.1) (u9.2.2.2.2.2.1) (u9.2.2.2.2.2.2.1) (u9.2.2.2.2.2.2.2))) ⟨hx, hb, hml, hown, hws⟩ hK hP hD hS hA hT (c_X3_takeStep l D cB cI gc me ba rg wa sm H.size v_im v_ei v_ha v_hb v_cy v_by v_ct v_wd ) (cwV 0 hws (gw_V mw_101 mw_102 mw_103 mw_2 mw_104) rfl rfl rfl hdX3_takeStep ⟨Nat.le_of_ble_eq_true rfl, Nat.le_of_ble_eq_true rfl⟩) [0, 1, 2, 3, 4, 5] [] [0, 1] [0, 1, 2, 3, 4, 5] rfl rfl rfl rfl (by decide) rfl (fun _ => rfl) rfl 0 rfl rfl rfl rfl hl.1 rfl (Nat.le_of_ble_eq_true rfl) dX3_step_1 ⟨Nat.zero_le _, Nat.zero_le _⟩ (fun r10 u9 H locs hw9 hP hD hS => ?_)
  obtain ⟨b1, b2, b3, b4, b5, b6, b7, b8⟩ := u9
  have hP : va_P D vwCl (kX3 cB cI gc me ba rg wa sm b1 b2 b3 b4 b5 b6 b7 b8) H := hP
  have hD : va_D A (kX3 cB cI gc me ba rg wa sm b1 b2 b3 b4 b5 b6 b7 b8) := hD
  have hf := hf.trans (kE9 hw9)
  rw [← hQ]
  exact W.iret (v := r10) hx hb hr (fun t ht hW => ⟨⟨r10, (b1, b2, b3, b4, b5, b6, b7, b8), rfl, hf.symm, by rw [ht]; exact hP, va_K.moved hW.alike hK, hD⟩, hS.F ht⟩) hS.2.2 dX3_step_4
def fX3_run_L (a1 : Int32) (q9 : Int32 × Bool × Bool × Bool × Bool × Int32 × (Nat → Int32) × Int32 × (Nat → Int32)) : (Int32 × Bool × Bool × Bool × Bool × Int32 × (Nat → Int32) × Int32 × (Nat → Int32)) ⊕ (Int32 × Bool × Bool × Bool × Bool × Int32 × (Nat → Int32) × Int32 × (Nat → Int32)) := kU9 q9 (fun (x3 : Int32) (b4 : Bool) (b5 : Bool) (b6 : Bool) (b7 : Bool) (b8 : Int32) (b9 : Nat → Int32) (b10 : Int32) (b11 : Nat → Int32) => (kIf (kLe a1 x3) (Sum.inr (a1, b4, b5, b6, b7, b8, b9, b10, b11)) (kU9 (fX3_takeStep b4 b5 b6 b7 b8 b9 b10 b11) (fun (r22 : Int32) (b13 : Bool) (b14 : Bool) (b15 : Bool) (b16 : Bool) (b17 : Int32) (b18 : Nat → Int32) (b19 : Int32) (b20 : Nat → Int32) => (kIf (kEq r22 (2 : Int32)) (Sum.inr (x3, b13, b14, b15, b16, b17, b18, b19, b20)) (kU1 (x3 + (1 : Int32)) (fun (x24 : Int32) => Sum.inl (x24, b13, b14, b15, b16, b17, b18, b19, b20))))))))
def fX3_run (v_im : Bool) (v_ei : Bool) (v_ha : Bool) (v_hb : Bool) (v_cy : Int32) (v_by : Nat → Int32) (v_ct : Int32) (v_wd : Nat → Int32) (a1 : Int32) : Int32 × Bool × Bool × Bool × Bool × Int32 × (Nat → Int32) × Int32 × (Nat → Int32) := (kIf (kLt a1 (1 : Int32)) ((-1 : Int32), v_im, v_ei, v_ha, v_hb, v_cy, v_by, v_ct, v_wd) (kIf (kLe a1 (2000 : Int32)) (kIt (fX3_run_L a1) (0, v_im, v_ei, v_ha, v_hb, v_cy, v_by, v_ct, v_wd) (a1.toNatClampNeg + 1) ((0 : Int32), v_im, v_ei, v_ha, v_hb, v_cy, v_by, v_ct, v_wd)) ((-1 : Int32), v_im, v_ei, v_ha, v_hb, v_cy, v_by, v_ct, v_wd)))
def rmX3_run : Room := { frames := 6, cells := 0, slots := 0, locals := 143 }
def wwX3_run : List Cond := Cond.code yX3_run cX3_run 3 (some .int) :: wsL_law
theorem hdX3_run : yX3_run.cls = RX3 ∧ yX3_run.cls ≠ "java/lang/invoke/MethodHandle" ∧ yX3_run.cls ≠ "java/lang/invoke/VarHandle" ∧ (parseMethodDescriptor yX3_run.desc).map (fun d => d.parameters.length) = some 1 := by decide +kernel
set_option maxHeartbeats 4000000 in
set_option maxRecDepth 100000 in
theorem c_X3_run (l : Launch) (D : va_G) (cB : ClassId) (cI : ClassId) (gc me ba rg wa sm sz : Nat) (v_im : Bool) (v_ei : Bool) (v_ha : Bool) (v_hb : Bool) (v_cy : Int32) (v_by : Nat → Int32) (v_ct : Int32) (v_wd : Nat → Int32) (a1 : Int32)  : Met l yX3_run wwX3_run rmX3_run (va_Pc [.ref gc, .int a1] (kp D (kX3 cB cI gc me ba rg wa sm v_im v_ei v_ha v_hb v_cy v_by v_ct v_wd) [(cB, .byte), (cI, .int)] sz)) (va_Qi (fun (r : Int32) (u9 : Bool × Bool × Bool × Bool × Int32 × (Nat → Int32) × Int32 × (Nat → Int32)) => (r, u9) = fX3_run v_im v_ei v_ha v_hb v_cy v_by v_ct v_wd a1) (fun u9 t => kq D (kX3 cB cI gc me ba rg wa sm (u9.1) (u9.2.1) (u9.2.2.1) (u9.2.2.2.1) (u9.2.2.2.2.1) (u9.2.2.2.2.2.1) (u9.2.2.2.2.2.2.1) (u9.2.2.2.2.2.2.2)) [(cB, .byte), (cI, .int)] (va_A (kX3 cB cI gc me ba rg wa sm v_im v_ei v_ha v_hb v_cy v_by v_ct v_wd) sz) t) (va_A (kX3 cB cI gc me ba rg wa sm v_im v_ei v_ha v_hb v_cy v_by v_ct v_wd) sz)) 0 0 (va_A (kX3 cB cI gc me ba rg wa sm v_im v_ei v_ha v_hb v_cy v_by v_ct v_wd) sz) := by
  refine Met.ofW (cc := cX3_run) (maxL := 3) (ret := (some .int)) (by decide) rfl ?_
  intro p e s m args below meth c s₁ B hml hv
  obtain ⟨rfl, hsz, hP, hK, hD0, hT⟩ := hv
  have hx := B.exec
  have hb := B.bytes
  have hr := B.returns
  have hts := atoms_spec (ws := wwX3_run) B.pre
  have hws : ∀ w ∈ wsL_law, w.before _ s = true := fun w h => hts w (List.mem_cons_of_mem _ h)
  have hown : s.vm.findClass RX3 = some m.cls := findClass_of_methodNamed B.named
  have hlocks := B.notSynchronized
  subst hsz
  have hD := hD0.self (sz := s.heap.size)
  generalize hAe : va_A (kX3 cB cI gc me ba rg wa sm v_im v_ei v_ha v_hb v_cy v_by v_ct v_wd) s.heap.size = A at hD hT ⊢
  have hA : ∀ q : Nat, s.heap.size ≤ q → A q := fun q h => by rw [← hAe]; exact Or.inr h
  have hS : va_S A s.heap s.heap [] := va_S.rf
  have hl := lv_entry ([.ref gc, .int a1]) (n := 3) (Nat.le_of_ble_eq_true rfl)
  rw [lg_entry_eq]
  generalize (lg_sl ([.ref gc, .int a1]) ++ List.replicate (3 - (lg_sl ([.ref gc, .int a1])).length) Slot.unset).toArray = ls at hl ⊢
  have hl : lv_has ls 3 [(0, .ref gc), (1, .int a1)] := hl
  generalize hQ : MQ _ _ _ _ _ _ _ = Q
  obtain ⟨H, hHe⟩ : ∃ H : Heap, H = s.heap := ⟨_, rfl⟩
  obtain ⟨locs, hle⟩ : ∃ L : List Loc, L = [] := ⟨_, rfl⟩
  have hP : va_P D vwCl (kX3 cB cI gc me ba rg wa sm v_im v_ei v_ha v_hb v_cy v_by v_ct v_wd) H := by rw [hHe]; exact hP
  have hS : va_S A s.heap H locs := by rw [hHe, hle]; exact hS
  refine kw_start hHe.symm hle.symm ?_
  have hf : fX3_run v_im v_ei v_ha v_hb v_cy v_by v_ct v_wd a1 = fX3_run v_im v_ei v_ha v_hb v_cy v_by v_ct v_wd a1 := rfl
  refine lv_iload_n hx hb dX3_run_0 rfl (lv_at hl 1 rfl) ?_
  refine lv_iconst (v := 1) hx hb dX3_run_1 (by decide) ?_
  refine lv_icmp_lt (tgt := 12) hx hb dX3_run_2 (by decide) (fun c1 => ?_) (fun c1 => ?_)
  · have hf := hf.trans (kt_lt c1)
    refine lv_iconst (v := -1) hx hb dX3_run_12 (by decide) ?_
    rw [← hQ]
    exact W.iret (v := (-1 : Int32)) hx hb hr (fun t ht hW => ⟨⟨(-1 : Int32), (v_im, v_ei, v_ha, v_hb, v_cy, v_by, v_ct, v_wd), rfl, hf.symm, by rw [ht]; exact hP, va_K.moved hW.alike hK, hD⟩, hS.F ht⟩) hS.2.2 dX3_run_13
  · have hf := hf.trans (kf_lt c1)
    refine lv_iload_n hx hb dX3_run_5 rfl (lv_at hl 1 rfl) ?_
    refine lv_sipush (v := 2000) hx hb dX3_run_6 (by decide) ?_
    refine lv_icmp_le (tgt := 14) hx hb dX3_run_9 (by decide) (fun c2 => ?_) (fun c2 => ?_)
    · have hf := hf.trans (kt_le c2)
      refine lv_iconst (v := 0) hx hb dX3_run_14 (by decide) ?_
      refine lv_istore_n (lv' := [(2, .int (0 : Int32)), (0, .ref gc), (1, .int a1)]) hx hb dX3_run_15 rfl hl (by decide) rfl (fun ls hl => ?_)
      have hLp : ∀ (n9 : Nat) (x3 : Int32) (b4 : Bool) (b5 : Bool) (b6 : Bool) (b7 : Bool) (b8 : Int32) (b9 : Nat → Int32) (b10 : Int32) (b11 : Nat → Int32), kT a1.toNatClampNeg x3 n9 → fX3_run v_im v_ei v_ha v_hb v_cy v_by v_ct v_wd a1 = kIt (fX3_run_L a1) (0, v_im, v_ei, v_ha, v_hb, v_cy, v_by, v_ct, v_wd) n9 (x3, b4, b5, b6, b7, b8, b9, b10, b11) → ∀ (H : Heap) (locs : List Loc) (ls : Array Slot), lv_has ls 3 [(2, .int x3), (0, .ref gc), (1, .int a1)] → va_P D vwCl (kX3 cB cI gc me ba rg wa sm b4 b5 b6 b7 b8 b9 b10 b11) H → va_D A (kX3 cB cI gc me ba rg wa sm b4 b5 b6 b7 b8 b9 b10 b11) → va_S A s.heap H locs → W p l e (headSpec wwX3_run rmX3_run).room s m ([.ref gc, .int a1] : List Value).toArray below meth c H locs 0 0 Q (F0 m 16 ls []) := by
        intro n9
        induction n9 with
        | zero => intro x3 b4 b5 b6 b7 b8 b9 b10 b11 ht9 hF H locs ls hl hP hD hS; exact absurd ht9 kT_0
        | succ n9 ih =>
          intro x3 b4 b5 b6 b7 b8 b9 b10 b11 ht9 hF H locs ls hl hP hD hS
          have hf : fX3_run_L a1 (x3, b4, b5, b6, b7, b8, b9, b10, b11) = _ := kE9 rfl
          refine lv_iload_n hx hb dX3_run_16 rfl (lv_at hl 0 rfl) ?_
          refine lv_iload_n hx hb dX3_run_17 rfl (lv_at hl 2 rfl) ?_
          refine lv_icmp_ge (tgt := 37) hx hb dX3_run_18 (by decide) (fun c12 => ?_) (fun c12 => ?_)
          · have hf := hf.trans (kt_le c12)
            refine lv_iload_n hx hb dX3_run_37 rfl (lv_at hl 2 rfl) ?_
            have hf := hF.trans (kI_inr hf)
            rw [← hQ]
            exact W.iret (v := a1) hx hb hr (fun t ht hW => ⟨⟨a1, (b4, b5, b6, b7, b8, b9, b10, b11), rfl, hf.symm, by rw [ht]; exact hP, va_K.moved hW.alike hK, hD⟩, hS.F ht⟩) hS.2.2 dX3_run_38
          · have hf := hf.trans (kf_le c12)
            refine lv_aload_n hx hb dX3_run_21 rfl (lv_at hl 1 rfl) ?_
            refine kc_Vi (wr := []) (As := []) (rest := []) (fun u9 => (kX3 cB cI gc me ba rg wa sm (u9.1) (u9.2.1) (u9.2.2.1) (u9.2.2.2.1) (u9.2.2.2.2.1) (u9.2.2.2.2.2.1) (u9.2.2.2.2.2.2.1) (u9.2.2.2.2.2.2.2))) ⟨hx, hb, hml, hown, hws⟩ hK hP hD hS hA hT (c_X3_takeStep l D cB cI gc me ba rg wa sm H.size b4 b5 b6 b7 b8 b9 b10 b11 ) (cwV 0 hws (gw_V mw_101 mw_102 mw_103 mw_2 mw_104) rfl rfl rfl hdX3_takeStep ⟨Nat.le_of_ble_eq_true rfl, Nat.le_of_ble_eq_true rfl⟩) [0, 1, 2, 3, 4, 5] [] [0, 1] [0, 1, 2, 3, 4, 5] rfl rfl rfl rfl (by decide) rfl (fun _ => rfl) rfl 0 rfl rfl rfl rfl hl.1 rfl (Nat.le_of_ble_eq_true rfl) dX3_run_22 ⟨Nat.zero_le _, Nat.zero_le _⟩ (fun r22 u9 H locs hw21 hP hD hS => ?_)
            obtain ⟨b13, b14, b15, b16, b17, b18, b19, b20⟩ := u9
            have hP : va_P D vwCl (kX3 cB cI gc me ba rg wa sm b13 b14 b15 b16 b17 b18 b19 b20) H := hP
            have hD : va_D A (kX3 cB cI gc me ba rg wa sm b13 b14 b15 b16 b17 b18 b19 b20) := hD
            have hf := hf.trans (kE9 hw21)
            refine lv_iconst (v := 2) hx hb dX3_run_25 (by decide) ?_
            refine lv_icmp_ne (tgt := 31) hx hb dX3_run_26 (by decide) (fun c23 => ?_) (fun c23 => ?_)
            · have hf := hf.trans (kf_eq c23)
              obtain ⟨x24, ex24⟩ : ∃ y9 : Int32, y9 = x3 + (1 : Int32) := ⟨_, rfl⟩
              have hf := hf.trans (kE1 ex24)
              refine lv_iinc (v := x24) (lv' := [(2, .int x24), (0, .ref gc), (1, .int a1)]) hx hb dX3_run_31 hl (k := 0) rfl (by rw [ex24]; rfl) (by decide) rfl (fun ls hl => ?_)
              refine lv_goto (tgt := 16) hx hb dX3_run_34 (by decide) ?_
              exact ih x24 b13 b14 b15 b16 b17 b18 b19 b20 (kT_stepV ex24 c12 ht9) (hF.trans (kI_inl hf)) H locs ls (lv_sub hl [0, 1, 2] rfl) hP hD hS
            · have hf := hf.trans (kt_eq c23)
              refine lv_iload_n hx hb dX3_run_29 rfl (lv_at hl 0 rfl) ?_
              have hf := hF.trans (kI_inr hf)
              rw [← hQ]
              exact W.iret (v := x3) hx hb hr (fun t ht hW => ⟨⟨x3, (b13, b14, b15, b16, b17, b18, b19, b20), rfl, hf.symm, by rw [ht]; exact hP, va_K.moved hW.alike hK, hD⟩, hS.F ht⟩) hS.2.2 dX3_run_30
      exact hLp (a1.toNatClampNeg + 1) (0 : Int32) v_im v_ei v_ha v_hb v_cy v_by v_ct v_wd (kT_init a1.toNatClampNeg) hf H locs ls (lv_sub hl [0, 1, 2] rfl) hP hD hS
    · have hf := hf.trans (kf_le c2)
      refine lv_iconst (v := -1) hx hb dX3_run_12 (by decide) ?_
      rw [← hQ]
      exact W.iret (v := (-1 : Int32)) hx hb hr (fun t ht hW => ⟨⟨(-1 : Int32), (v_im, v_ei, v_ha, v_hb, v_cy, v_by, v_ct, v_wd), rfl, hf.symm, by rw [ht]; exact hP, va_K.moved hW.alike hK, hD⟩, hS.F ht⟩) hS.2.2 dX3_run_13
def fX3_request (v_by : Nat → Int32) (a1 : Int32) : Bool × (Nat → Int32) := (kIf (kLt a1 (0 : Int32)) (false, v_by) (kIf (kLt a1 (5 : Int32)) (kU1 (fX0_raiseInterrupts v_by ((1 : Int32) <<< (a1 &&& (31 : Int32)))) (fun (b3 : Nat → Int32) => (true, b3))) (false, v_by)))
def rmX3_request : Room := { frames := 2, cells := 0, slots := 0, locals := 43 }
def wwX3_request : List Cond := Cond.code yX3_request cX3_request 2 (some .boolean) :: wsL_law
theorem hdX3_request : yX3_request.cls = RX3 ∧ yX3_request.cls ≠ "java/lang/invoke/MethodHandle" ∧ yX3_request.cls ≠ "java/lang/invoke/VarHandle" ∧ (parseMethodDescriptor yX3_request.desc).map (fun d => d.parameters.length) = some 1 := by decide +kernel
set_option maxHeartbeats 4000000 in
set_option maxRecDepth 100000 in
theorem c_X3_request (l : Launch) (D : va_G) (cB : ClassId) (cI : ClassId) (gc me ba rg wa sm sz : Nat) (v_im : Bool) (v_ei : Bool) (v_ha : Bool) (v_hb : Bool) (v_cy : Int32) (v_by : Nat → Int32) (v_ct : Int32) (v_wd : Nat → Int32) (a1 : Int32)  : Met l yX3_request wwX3_request rmX3_request (va_Pc [.ref gc, .int a1] (kp D (kX3 cB cI gc me ba rg wa sm v_im v_ei v_ha v_hb v_cy v_by v_ct v_wd) [(cB, .byte), (cI, .int)] sz)) (va_Qi (fun (r : Int32) (u9 : (Nat → Int32)) => ∃ z9 : Bool, r = bI z9 ∧ (z9, u9) = fX3_request v_by a1) (fun u9 t => kq D (kX3 cB cI gc me ba rg wa sm v_im v_ei v_ha v_hb v_cy u9 v_ct v_wd) [(cB, .byte), (cI, .int)] (va_A (kX3 cB cI gc me ba rg wa sm v_im v_ei v_ha v_hb v_cy v_by v_ct v_wd) sz) t) (va_A (kX3 cB cI gc me ba rg wa sm v_im v_ei v_ha v_hb v_cy v_by v_ct v_wd) sz)) 0 0 (va_A (kX3 cB cI gc me ba rg wa sm v_im v_ei v_ha v_hb v_cy v_by v_ct v_wd) sz) := by
  refine Met.ofW (cc := cX3_request) (maxL := 2) (ret := (some .boolean)) (by decide) rfl ?_
  intro p e s m args below meth c s₁ B hml hv
  obtain ⟨rfl, hsz, hP, hK, hD0, hT⟩ := hv
  have hx := B.exec
  have hb := B.bytes
  have hr := B.returns
  have hts := atoms_spec (ws := wwX3_request) B.pre
  have hws : ∀ w ∈ wsL_law, w.before _ s = true := fun w h => hts w (List.mem_cons_of_mem _ h)
  have hown : s.vm.findClass RX3 = some m.cls := findClass_of_methodNamed B.named
  have hlocks := B.notSynchronized
  subst hsz
  have hD := hD0.self (sz := s.heap.size)
  generalize hAe : va_A (kX3 cB cI gc me ba rg wa sm v_im v_ei v_ha v_hb v_cy v_by v_ct v_wd) s.heap.size = A at hD hT ⊢
  have hA : ∀ q : Nat, s.heap.size ≤ q → A q := fun q h => by rw [← hAe]; exact Or.inr h
  have hS : va_S A s.heap s.heap [] := va_S.rf
  have hl := lv_entry ([.ref gc, .int a1]) (n := 2) (Nat.le_of_ble_eq_true rfl)
  rw [lg_entry_eq]
  generalize (lg_sl ([.ref gc, .int a1]) ++ List.replicate (2 - (lg_sl ([.ref gc, .int a1])).length) Slot.unset).toArray = ls at hl ⊢
  have hl : lv_has ls 2 [(0, .ref gc), (1, .int a1)] := hl
  generalize hQ : MQ _ _ _ _ _ _ _ = Q
  obtain ⟨H, hHe⟩ : ∃ H : Heap, H = s.heap := ⟨_, rfl⟩
  obtain ⟨locs, hle⟩ : ∃ L : List Loc, L = [] := ⟨_, rfl⟩
  have hP : va_P D vwCl (kX3 cB cI gc me ba rg wa sm v_im v_ei v_ha v_hb v_cy v_by v_ct v_wd) H := by rw [hHe]; exact hP
  have hS : va_S A s.heap H locs := by rw [hHe, hle]; exact hS
  refine kw_start hHe.symm hle.symm ?_
  have hf : fX3_request v_by a1 = fX3_request v_by a1 := rfl
  refine lv_iload_n hx hb dX3_request_0 rfl (lv_at hl 1 rfl) ?_
  refine lv_if_lt (tgt := 9) hx hb dX3_request_1 (by decide) (fun c1 => ?_) (fun c1 => ?_)
  · have hf := hf.trans (kt_lt c1)
    refine lv_iconst (v := 0) hx hb dX3_request_9 (by decide) ?_
    rw [← hQ]
    exact W.zret (v := bI false) (ty := .boolean) hx hb hr (bI_nar _) (fun t ht hW => ⟨⟨bI false, v_by, rfl, ⟨false, rfl, hf.symm⟩, by rw [ht]; exact hP, va_K.moved hW.alike hK, hD⟩, hS.F ht⟩) hS.2.2 dX3_request_10
  · have hf := hf.trans (kf_lt c1)
    refine lv_iload_n hx hb dX3_request_4 rfl (lv_at hl 1 rfl) ?_
    refine lv_iconst (v := 5) hx hb dX3_request_5 (by decide) ?_
    refine lv_icmp_lt (tgt := 11) hx hb dX3_request_6 (by decide) (fun c2 => ?_) (fun c2 => ?_)
    · have hf := hf.trans (kt_lt c2)
      refine lv_aload_n hx hb dX3_request_11 rfl (lv_at hl 0 rfl) ?_
      refine va_get (D := D) (ci := 3) (v := .ref me) (C := RX3) (T := TX3) (N := 8) hx hb hws inlX3 hown hK hP 0 rfl rfl 0 (by decide) (hws _ mw_15) (fun _ h9 => h9) rfl dX3_request_12 ?_
      refine lv_iconst (v := 1) hx hb dX3_request_15 (by decide) ?_
      refine lv_iload_n hx hb dX3_request_16 rfl (lv_at hl 1 rfl) ?_
      refine lv_ishl hx hb dX3_request_17 ?_
      refine kc_Vv (wr := [(gc, .inr (3, [.ref me, .ref rg, .ref sm, .int (bI v_im), .int (bI v_ei), .int (bI v_ha), .int (bI v_hb), .int v_cy])), (rg, .inr (1, [.ref wa])), (wa, .inl (cI, 6, .inl v_wd)), (sm, .inr (2, [.ref rg]))]) (As := [.int ((1 : Int32) <<< (a1 &&& (31 : Int32)))]) (rest := []) (fun u9 => (kX3 cB cI gc me ba rg wa sm v_im v_ei v_ha v_hb v_cy u9 v_ct v_wd)) ⟨hx, hb, hml, hown, hws⟩ hK hP hD hS hA hT (c_X0_raiseInterrupts l D cB me ba H.size v_by v_ct ((1 : Int32) <<< (a1 &&& (31 : Int32)))) (cwV 1 hws (gw_V mw_580 mw_161 mw_162 mw_14 mw_163) rfl rfl rfl hdX0_raiseInterrupts ⟨Nat.le_of_ble_eq_true rfl, Nat.le_of_ble_eq_true rfl⟩) [1, 2] [0, 3, 4, 5] [0] [0, 4, 5, 1, 2, 3] rfl rfl rfl rfl (by decide) rfl (fun _ => rfl) rfl 1 rfl rfl rfl rfl hl.1 rfl (Nat.le_of_ble_eq_true rfl) dX3_request_18 ⟨Nat.zero_le _, Nat.zero_le _⟩ (fun b3 H locs hw4 hP hD hS => ?_)
      have hP : va_P D vwCl (kX3 cB cI gc me ba rg wa sm v_im v_ei v_ha v_hb v_cy b3 v_ct v_wd) H := hP
      have hD : va_D A (kX3 cB cI gc me ba rg wa sm v_im v_ei v_ha v_hb v_cy b3 v_ct v_wd) := hD
      have hf := hf.trans (kE1 hw4)
      refine lv_iconst (v := 1) hx hb dX3_request_21 (by decide) ?_
      rw [← hQ]
      exact W.zret (v := bI true) (ty := .boolean) hx hb hr (bI_nar _) (fun t ht hW => ⟨⟨bI true, b3, rfl, ⟨true, rfl, hf.symm⟩, by rw [ht]; exact hP, va_K.moved hW.alike hK, hD⟩, hS.F ht⟩) hS.2.2 dX3_request_22
    · have hf := hf.trans (kf_lt c2)
      refine lv_iconst (v := 0) hx hb dX3_request_9 (by decide) ?_
      rw [← hQ]
      exact W.zret (v := bI false) (ty := .boolean) hx hb hr (bI_nar _) (fun t ht hW => ⟨⟨bI false, v_by, rfl, ⟨false, rfl, hf.symm⟩, by rw [ht]; exact hP, va_K.moved hW.alike hK, hD⟩, hS.F ht⟩) hS.2.2 dX3_request_10
def fX3_reg (v_wd : Nat → Int32) (a1 : Int32) : Int32 := (kU1 (fX1_word v_wd a1) (fun (r2 : Int32) => r2))
def rmX3_reg : Room := { frames := 1, cells := 0, slots := 0, locals := 21 }
def wwX3_reg : List Cond := Cond.code yX3_reg cX3_reg 2 (some .int) :: wsL_law
theorem hdX3_reg : yX3_reg.cls = RX3 ∧ yX3_reg.cls ≠ "java/lang/invoke/MethodHandle" ∧ yX3_reg.cls ≠ "java/lang/invoke/VarHandle" ∧ (parseMethodDescriptor yX3_reg.desc).map (fun d => d.parameters.length) = some 1 := by decide +kernel
set_option maxHeartbeats 4000000 in
set_option maxRecDepth 100000 in
theorem c_X3_reg (l : Launch) (D : va_G) (cB : ClassId) (cI : ClassId) (gc me ba rg wa sm sz : Nat) (v_im : Bool) (v_ei : Bool) (v_ha : Bool) (v_hb : Bool) (v_cy : Int32) (v_by : Nat → Int32) (v_ct : Int32) (v_wd : Nat → Int32) (a1 : Int32)  : Met l yX3_reg wwX3_reg rmX3_reg (va_Pc [.ref gc, .int a1] (kp D (kX3 cB cI gc me ba rg wa sm v_im v_ei v_ha v_hb v_cy v_by v_ct v_wd) [(cB, .byte), (cI, .int)] sz)) (va_Qi (fun (r : Int32) (_ : Unit) => r = fX3_reg v_wd a1) (fun _ t => kq D (kX3 cB cI gc me ba rg wa sm v_im v_ei v_ha v_hb v_cy v_by v_ct v_wd) [(cB, .byte), (cI, .int)] (va_A (kX3 cB cI gc me ba rg wa sm v_im v_ei v_ha v_hb v_cy v_by v_ct v_wd) sz) t) (va_A (kX3 cB cI gc me ba rg wa sm v_im v_ei v_ha v_hb v_cy v_by v_ct v_wd) sz)) 0 0 (va_A (kX3 cB cI gc me ba rg wa sm v_im v_ei v_ha v_hb v_cy v_by v_ct v_wd) sz) := by
  refine Met.ofW (cc := cX3_reg) (maxL := 2) (ret := (some .int)) (by decide) rfl ?_
  intro p e s m args below meth c s₁ B hml hv
  obtain ⟨rfl, hsz, hP, hK, hD0, hT⟩ := hv
  have hx := B.exec
  have hb := B.bytes
  have hr := B.returns
  have hts := atoms_spec (ws := wwX3_reg) B.pre
  have hws : ∀ w ∈ wsL_law, w.before _ s = true := fun w h => hts w (List.mem_cons_of_mem _ h)
  have hown : s.vm.findClass RX3 = some m.cls := findClass_of_methodNamed B.named
  have hlocks := B.notSynchronized
  subst hsz
  have hD := hD0.self (sz := s.heap.size)
  generalize hAe : va_A (kX3 cB cI gc me ba rg wa sm v_im v_ei v_ha v_hb v_cy v_by v_ct v_wd) s.heap.size = A at hD hT ⊢
  have hA : ∀ q : Nat, s.heap.size ≤ q → A q := fun q h => by rw [← hAe]; exact Or.inr h
  have hS : va_S A s.heap s.heap [] := va_S.rf
  have hl := lv_entry ([.ref gc, .int a1]) (n := 2) (Nat.le_of_ble_eq_true rfl)
  rw [lg_entry_eq]
  generalize (lg_sl ([.ref gc, .int a1]) ++ List.replicate (2 - (lg_sl ([.ref gc, .int a1])).length) Slot.unset).toArray = ls at hl ⊢
  have hl : lv_has ls 2 [(0, .ref gc), (1, .int a1)] := hl
  generalize hQ : MQ _ _ _ _ _ _ _ = Q
  obtain ⟨H, hHe⟩ : ∃ H : Heap, H = s.heap := ⟨_, rfl⟩
  obtain ⟨locs, hle⟩ : ∃ L : List Loc, L = [] := ⟨_, rfl⟩
  have hP : va_P D vwCl (kX3 cB cI gc me ba rg wa sm v_im v_ei v_ha v_hb v_cy v_by v_ct v_wd) H := by rw [hHe]; exact hP
  have hS : va_S A s.heap H locs := by rw [hHe, hle]; exact hS
  refine kw_start hHe.symm hle.symm ?_
  have hf : fX3_reg v_wd a1 = fX3_reg v_wd a1 := rfl
  refine lv_aload_n hx hb dX3_reg_0 rfl (lv_at hl 0 rfl) ?_
  refine va_get (D := D) (ci := 3) (v := .ref rg) (C := RX3) (T := TX3) (N := 8) hx hb hws inlX3 hown hK hP 0 rfl rfl 1 (by decide) (hws _ mw_20) (fun _ h9 => h9) rfl dX3_reg_1 ?_
  refine lv_iload_n hx hb dX3_reg_4 rfl (lv_at hl 1 rfl) ?_
  refine kc_Vi (wr := [(gc, .inr (3, [.ref me, .ref rg, .ref sm, .int (bI v_im), .int (bI v_ei), .int (bI v_ha), .int (bI v_hb), .int v_cy])), (me, .inr (0, [.ref ba, .int v_ct])), (ba, .inl (cB, 65536, .inl v_by)), (sm, .inr (2, [.ref rg]))]) (As := [.int a1]) (rest := []) (fun _ => (kX3 cB cI gc me ba rg wa sm v_im v_ei v_ha v_hb v_cy v_by v_ct v_wd)) ⟨hx, hb, hml, hown, hws⟩ hK hP hD hS hA hT (c_X1_word l D cI rg wa H.size v_wd a1) (cwV 1 hws (gw_V mw_123 mw_124 mw_125 mw_32 mw_126) rfl rfl rfl hdX1_word ⟨Nat.le_of_ble_eq_true rfl, Nat.le_of_ble_eq_true rfl⟩) [3, 4] [0, 1, 2, 5] [1] [0, 1, 2, 4, 5, 3] rfl rfl rfl rfl (by decide) rfl (fun _ => rfl) rfl 3 rfl rfl rfl rfl hl.1 rfl (Nat.le_of_ble_eq_true rfl) dX3_reg_5 ⟨Nat.zero_le _, Nat.zero_le _⟩ (fun r2 _ H locs hw1 hP hD hS => ?_)
  have hP : va_P D vwCl (kX3 cB cI gc me ba rg wa sm v_im v_ei v_ha v_hb v_cy v_by v_ct v_wd) H := hP
  have hD : va_D A (kX3 cB cI gc me ba rg wa sm v_im v_ei v_ha v_hb v_cy v_by v_ct v_wd) := hD
  have hf := hf.trans (kE1 hw1)
  rw [← hQ]
  exact W.iret (v := r2) hx hb hr (fun t ht hW => ⟨⟨r2, (), rfl, hf.symm, by rw [ht]; exact hP, va_K.moved hW.alike hK, hD⟩, hS.F ht⟩) hS.2.2 dX3_reg_8
def fX3_set (v_wd : Nat → Int32) (a1 : Int32) (a2 : Int32) : Bool × (Nat → Int32) := (kU2 (fX1_setWord v_wd a1 a2) (fun (z4 : Bool) (b1 : Nat → Int32) => (z4, b1)))
def rmX3_set : Room := { frames := 1, cells := 0, slots := 0, locals := 22 }
def wwX3_set : List Cond := Cond.code yX3_set cX3_set 3 (some .boolean) :: wsL_law
theorem hdX3_set : yX3_set.cls = RX3 ∧ yX3_set.cls ≠ "java/lang/invoke/MethodHandle" ∧ yX3_set.cls ≠ "java/lang/invoke/VarHandle" ∧ (parseMethodDescriptor yX3_set.desc).map (fun d => d.parameters.length) = some 2 := by decide +kernel
set_option maxHeartbeats 4000000 in
set_option maxRecDepth 100000 in
theorem c_X3_set (l : Launch) (D : va_G) (cB : ClassId) (cI : ClassId) (gc me ba rg wa sm sz : Nat) (v_im : Bool) (v_ei : Bool) (v_ha : Bool) (v_hb : Bool) (v_cy : Int32) (v_by : Nat → Int32) (v_ct : Int32) (v_wd : Nat → Int32) (a1 : Int32) (a2 : Int32)  : Met l yX3_set wwX3_set rmX3_set (va_Pc [.ref gc, .int a1, .int a2] (kp D (kX3 cB cI gc me ba rg wa sm v_im v_ei v_ha v_hb v_cy v_by v_ct v_wd) [(cB, .byte), (cI, .int)] sz)) (va_Qi (fun (r : Int32) (u9 : (Nat → Int32)) => ∃ z9 : Bool, r = bI z9 ∧ (z9, u9) = fX3_set v_wd a1 a2) (fun u9 t => kq D (kX3 cB cI gc me ba rg wa sm v_im v_ei v_ha v_hb v_cy v_by v_ct u9) [(cB, .byte), (cI, .int)] (va_A (kX3 cB cI gc me ba rg wa sm v_im v_ei v_ha v_hb v_cy v_by v_ct v_wd) sz) t) (va_A (kX3 cB cI gc me ba rg wa sm v_im v_ei v_ha v_hb v_cy v_by v_ct v_wd) sz)) 0 0 (va_A (kX3 cB cI gc me ba rg wa sm v_im v_ei v_ha v_hb v_cy v_by v_ct v_wd) sz) := by
  refine Met.ofW (cc := cX3_set) (maxL := 3) (ret := (some .boolean)) (by decide) rfl ?_
  intro p e s m args below meth c s₁ B hml hv
  obtain ⟨rfl, hsz, hP, hK, hD0, hT⟩ := hv
  have hx := B.exec
  have hb := B.bytes
  have hr := B.returns
  have hts := atoms_spec (ws := wwX3_set) B.pre
  have hws : ∀ w ∈ wsL_law, w.before _ s = true := fun w h => hts w (List.mem_cons_of_mem _ h)
  have hown : s.vm.findClass RX3 = some m.cls := findClass_of_methodNamed B.named
  have hlocks := B.notSynchronized
  subst hsz
  have hD := hD0.self (sz := s.heap.size)
  generalize hAe : va_A (kX3 cB cI gc me ba rg wa sm v_im v_ei v_ha v_hb v_cy v_by v_ct v_wd) s.heap.size = A at hD hT ⊢
  have hA : ∀ q : Nat, s.heap.size ≤ q → A q := fun q h => by rw [← hAe]; exact Or.inr h
  have hS : va_S A s.heap s.heap [] := va_S.rf
  have hl := lv_entry ([.ref gc, .int a1, .int a2]) (n := 3) (Nat.le_of_ble_eq_true rfl)
  rw [lg_entry_eq]
  generalize (lg_sl ([.ref gc, .int a1, .int a2]) ++ List.replicate (3 - (lg_sl ([.ref gc, .int a1, .int a2])).length) Slot.unset).toArray = ls at hl ⊢
  have hl : lv_has ls 3 [(0, .ref gc), (1, .int a1), (2, .int a2)] := hl
  generalize hQ : MQ _ _ _ _ _ _ _ = Q
  obtain ⟨H, hHe⟩ : ∃ H : Heap, H = s.heap := ⟨_, rfl⟩
  obtain ⟨locs, hle⟩ : ∃ L : List Loc, L = [] := ⟨_, rfl⟩
  have hP : va_P D vwCl (kX3 cB cI gc me ba rg wa sm v_im v_ei v_ha v_hb v_cy v_by v_ct v_wd) H := by rw [hHe]; exact hP
  have hS : va_S A s.heap H locs := by rw [hHe, hle]; exact hS
  refine kw_start hHe.symm hle.symm ?_
  have hf : fX3_set v_wd a1 a2 = fX3_set v_wd a1 a2 := rfl
  refine lv_aload_n hx hb dX3_set_0 rfl (lv_at hl 0 rfl) ?_
  refine va_get (D := D) (ci := 3) (v := .ref rg) (C := RX3) (T := TX3) (N := 8) hx hb hws inlX3 hown hK hP 0 rfl rfl 1 (by decide) (hws _ mw_20) (fun _ h9 => h9) rfl dX3_set_1 ?_
  refine lv_iload_n hx hb dX3_set_4 rfl (lv_at hl 1 rfl) ?_
  refine lv_iload_n hx hb dX3_set_5 rfl (lv_at hl 2 rfl) ?_
  refine kc_Vi (wr := [(gc, .inr (3, [.ref me, .ref rg, .ref sm, .int (bI v_im), .int (bI v_ei), .int (bI v_ha), .int (bI v_hb), .int v_cy])), (me, .inr (0, [.ref ba, .int v_ct])), (ba, .inl (cB, 65536, .inl v_by)), (sm, .inr (2, [.ref rg]))]) (As := [.int a1, .int a2]) (rest := []) (fun u9 => (kX3 cB cI gc me ba rg wa sm v_im v_ei v_ha v_hb v_cy v_by v_ct u9)) ⟨hx, hb, hml, hown, hws⟩ hK hP hD hS hA hT (c_X1_setWord l D cI rg wa H.size v_wd a1 a2) (cwV 2 hws (gw_V mw_137 mw_138 mw_139 mw_32 mw_140) rfl rfl rfl hdX1_setWord ⟨Nat.le_of_ble_eq_true rfl, Nat.le_of_ble_eq_true rfl⟩) [3, 4] [0, 1, 2, 5] [1] [0, 1, 2, 4, 5, 3] rfl rfl rfl rfl (by decide) rfl (fun _ => rfl) rfl 3 rfl rfl rfl rfl hl.1 rfl (Nat.le_of_ble_eq_true rfl) dX3_set_6 ⟨Nat.zero_le _, Nat.zero_le _⟩ (fun r3 b1 H locs hw2 hP hD hS => ?_)
  obtain ⟨z4, rfl, hw2⟩ := hw2
  have hP : va_P D vwCl (kX3 cB cI gc me ba rg wa sm v_im v_ei v_ha v_hb v_cy v_by v_ct b1) H := hP
  have hD : va_D A (kX3 cB cI gc me ba rg wa sm v_im v_ei v_ha v_hb v_cy v_by v_ct b1) := hD
  have hf := hf.trans (kE2 hw2)
  rw [← hQ]
  exact W.zret (v := bI z4) (ty := .boolean) hx hb hr (bI_nar _) (fun t ht hW => ⟨⟨bI z4, b1, rfl, ⟨z4, rfl, hf.symm⟩, by rw [ht]; exact hP, va_K.moved hW.alike hK, hD⟩, hS.F ht⟩) hS.2.2 dX3_set_9
def fX3_look (v_im : Bool) (v_ei : Bool) (v_ha : Bool) (v_hb : Bool) (v_ct : Int32) (a1 : Int32) : Int32 := (kIf (kEq a1 (0 : Int32)) (kIf (kEq (bI v_im) (0 : Int32)) (0 : Int32) (1 : Int32)) (kIf (kEq a1 (1 : Int32)) (kIf (kEq (bI v_ei) (0 : Int32)) (0 : Int32) (1 : Int32)) (kIf (kEq a1 (2 : Int32)) (kIf (kEq (bI v_ha) (0 : Int32)) (0 : Int32) (1 : Int32)) (kIf (kEq a1 (3 : Int32)) (kIf (kEq (bI v_hb) (0 : Int32)) (0 : Int32) (1 : Int32)) (kIf (kEq a1 (4 : Int32)) v_ct (-1 : Int32))))))
def rmX3_look : Room := { frames := 0, cells := 0, slots := 0, locals := 0 }
def wwX3_look : List Cond := Cond.code yX3_look cX3_look 2 (some .int) :: wsL_law
theorem hdX3_look : yX3_look.cls = RX3 ∧ yX3_look.cls ≠ "java/lang/invoke/MethodHandle" ∧ yX3_look.cls ≠ "java/lang/invoke/VarHandle" ∧ (parseMethodDescriptor yX3_look.desc).map (fun d => d.parameters.length) = some 1 := by decide +kernel
set_option maxHeartbeats 4000000 in
set_option maxRecDepth 100000 in
theorem c_X3_look (l : Launch) (D : va_G) (cB : ClassId) (cI : ClassId) (gc me ba rg wa sm sz : Nat) (v_im : Bool) (v_ei : Bool) (v_ha : Bool) (v_hb : Bool) (v_cy : Int32) (v_by : Nat → Int32) (v_ct : Int32) (v_wd : Nat → Int32) (a1 : Int32)  : Met l yX3_look wwX3_look rmX3_look (va_Pc [.ref gc, .int a1] (kp D (kX3 cB cI gc me ba rg wa sm v_im v_ei v_ha v_hb v_cy v_by v_ct v_wd) [(cB, .byte), (cI, .int)] sz)) (va_Qi (fun (r : Int32) (_ : Unit) => r = fX3_look v_im v_ei v_ha v_hb v_ct a1) (fun _ t => kq D (kX3 cB cI gc me ba rg wa sm v_im v_ei v_ha v_hb v_cy v_by v_ct v_wd) [(cB, .byte), (cI, .int)] (va_A (kX3 cB cI gc me ba rg wa sm v_im v_ei v_ha v_hb v_cy v_by v_ct v_wd) sz) t) (va_A (kX3 cB cI gc me ba rg wa sm v_im v_ei v_ha v_hb v_cy v_by v_ct v_wd) sz)) 0 0 (va_A (kX3 cB cI gc me ba rg wa sm v_im v_ei v_ha v_hb v_cy v_by v_ct v_wd) sz) := by
  refine Met.ofW (cc := cX3_look) (maxL := 2) (ret := (some .int)) (by decide) rfl ?_
  intro p e s m args below meth c s₁ B hml hv
  obtain ⟨rfl, hsz, hP, hK, hD0, hT⟩ := hv
  have hx := B.exec
  have hb := B.bytes
  have hr := B.returns
  have hts := atoms_spec (ws := wwX3_look) B.pre
  have hws : ∀ w ∈ wsL_law, w.before _ s = true := fun w h => hts w (List.mem_cons_of_mem _ h)
  have hown : s.vm.findClass RX3 = some m.cls := findClass_of_methodNamed B.named
  have hlocks := B.notSynchronized
  subst hsz
  have hD := hD0.self (sz := s.heap.size)
  generalize hAe : va_A (kX3 cB cI gc me ba rg wa sm v_im v_ei v_ha v_hb v_cy v_by v_ct v_wd) s.heap.size = A at hD hT ⊢
  have hA : ∀ q : Nat, s.heap.size ≤ q → A q := fun q h => by rw [← hAe]; exact Or.inr h
  have hS : va_S A s.heap s.heap [] := va_S.rf
  have hl := lv_entry ([.ref gc, .int a1]) (n := 2) (Nat.le_of_ble_eq_true rfl)
  rw [lg_entry_eq]
  generalize (lg_sl ([.ref gc, .int a1]) ++ List.replicate (2 - (lg_sl ([.ref gc, .int a1])).length) Slot.unset).toArray = ls at hl ⊢
  have hl : lv_has ls 2 [(0, .ref gc), (1, .int a1)] := hl
  generalize hQ : MQ _ _ _ _ _ _ _ = Q
  obtain ⟨H, hHe⟩ : ∃ H : Heap, H = s.heap := ⟨_, rfl⟩
  obtain ⟨locs, hle⟩ : ∃ L : List Loc, L = [] := ⟨_, rfl⟩
  have hP : va_P D vwCl (kX3 cB cI gc me ba rg wa sm v_im v_ei v_ha v_hb v_cy v_by v_ct v_wd) H := by rw [hHe]; exact hP
  have hS : va_S A s.heap H locs := by rw [hHe, hle]; exact hS
  refine kw_start hHe.symm hle.symm ?_
  have hf : fX3_look v_im v_ei v_ha v_hb v_ct a1 = fX3_look v_im v_ei v_ha v_hb v_ct a1 := rfl
  refine lv_iload_n hx hb dX3_look_0 rfl (lv_at hl 1 rfl) ?_
  by_cases c1 : a1 = (0 : Int32)
  · have hf := hf.trans (kt_eq c1)
    refine lv_tableIn (off := 35) (tgt := 36) hx hb dX3_look_1 (by rw [c1]; decide) (by rw [c1]; decide) (by rw [c1]; decide) (by decide) ?_
    refine lv_aload_n hx hb dX3_look_36 rfl (lv_at hl 0 rfl) ?_
    refine va_get (D := D) (ci := 3) (v := .int (bI v_im)) (C := RX3) (T := TX3) (N := 8) hx hb hws inlX3 hown hK hP 0 rfl rfl 3 (by decide) (hws _ mw_105) (fun _ h9 => h9) rfl dX3_look_37 ?_
    refine lv_if_eq (tgt := 47) hx hb dX3_look_40 (by decide) (fun c2 => ?_) (fun c2 => ?_)
    · have hf := hf.trans (kt_eq c2)
      refine lv_iconst (v := 0) hx hb dX3_look_47 (by decide) ?_
      rw [← hQ]
      exact W.iret (v := (0 : Int32)) hx hb hr (fun t ht hW => ⟨⟨(0 : Int32), (), rfl, hf.symm, by rw [ht]; exact hP, va_K.moved hW.alike hK, hD⟩, hS.F ht⟩) hS.2.2 dX3_look_48
    · have hf := hf.trans (kf_eq c2)
      refine lv_iconst (v := 1) hx hb dX3_look_43 (by decide) ?_
      refine lv_goto (tgt := 48) hx hb dX3_look_44 (by decide) ?_
      rw [← hQ]
      exact W.iret (v := (1 : Int32)) hx hb hr (fun t ht hW => ⟨⟨(1 : Int32), (), rfl, hf.symm, by rw [ht]; exact hP, va_K.moved hW.alike hK, hD⟩, hS.F ht⟩) hS.2.2 dX3_look_48
  · have hf := hf.trans (kf_eq c1)
    by_cases c3 : a1 = (1 : Int32)
    · have hf := hf.trans (kt_eq c3)
      refine lv_tableIn (off := 48) (tgt := 49) hx hb dX3_look_1 (by rw [c3]; decide) (by rw [c3]; decide) (by rw [c3]; decide) (by decide) ?_
      refine lv_aload_n hx hb dX3_look_49 rfl (lv_at hl 0 rfl) ?_
      refine va_get (D := D) (ci := 3) (v := .int (bI v_ei)) (C := RX3) (T := TX3) (N := 8) hx hb hws inlX3 hown hK hP 0 rfl rfl 4 (by decide) (hws _ mw_108) (fun _ h9 => h9) rfl dX3_look_50 ?_
      refine lv_if_eq (tgt := 60) hx hb dX3_look_53 (by decide) (fun c4 => ?_) (fun c4 => ?_)
      · have hf := hf.trans (kt_eq c4)
        refine lv_iconst (v := 0) hx hb dX3_look_60 (by decide) ?_
        rw [← hQ]
        exact W.iret (v := (0 : Int32)) hx hb hr (fun t ht hW => ⟨⟨(0 : Int32), (), rfl, hf.symm, by rw [ht]; exact hP, va_K.moved hW.alike hK, hD⟩, hS.F ht⟩) hS.2.2 dX3_look_61
      · have hf := hf.trans (kf_eq c4)
        refine lv_iconst (v := 1) hx hb dX3_look_56 (by decide) ?_
        refine lv_goto (tgt := 61) hx hb dX3_look_57 (by decide) ?_
        rw [← hQ]
        exact W.iret (v := (1 : Int32)) hx hb hr (fun t ht hW => ⟨⟨(1 : Int32), (), rfl, hf.symm, by rw [ht]; exact hP, va_K.moved hW.alike hK, hD⟩, hS.F ht⟩) hS.2.2 dX3_look_61
    · have hf := hf.trans (kf_eq c3)
      by_cases c5 : a1 = (2 : Int32)
      · have hf := hf.trans (kt_eq c5)
        refine lv_tableIn (off := 61) (tgt := 62) hx hb dX3_look_1 (by rw [c5]; decide) (by rw [c5]; decide) (by rw [c5]; decide) (by decide) ?_
        refine lv_aload_n hx hb dX3_look_62 rfl (lv_at hl 0 rfl) ?_
        refine va_get (D := D) (ci := 3) (v := .int (bI v_ha)) (C := RX3) (T := TX3) (N := 8) hx hb hws inlX3 hown hK hP 0 rfl rfl 5 (by decide) (hws _ mw_106) (fun _ h9 => h9) rfl dX3_look_63 ?_
        refine lv_if_eq (tgt := 73) hx hb dX3_look_66 (by decide) (fun c6 => ?_) (fun c6 => ?_)
        · have hf := hf.trans (kt_eq c6)
          refine lv_iconst (v := 0) hx hb dX3_look_73 (by decide) ?_
          rw [← hQ]
          exact W.iret (v := (0 : Int32)) hx hb hr (fun t ht hW => ⟨⟨(0 : Int32), (), rfl, hf.symm, by rw [ht]; exact hP, va_K.moved hW.alike hK, hD⟩, hS.F ht⟩) hS.2.2 dX3_look_74
        · have hf := hf.trans (kf_eq c6)
          refine lv_iconst (v := 1) hx hb dX3_look_69 (by decide) ?_
          refine lv_goto (tgt := 74) hx hb dX3_look_70 (by decide) ?_
          rw [← hQ]
          exact W.iret (v := (1 : Int32)) hx hb hr (fun t ht hW => ⟨⟨(1 : Int32), (), rfl, hf.symm, by rw [ht]; exact hP, va_K.moved hW.alike hK, hD⟩, hS.F ht⟩) hS.2.2 dX3_look_74
      · have hf := hf.trans (kf_eq c5)
        by_cases c7 : a1 = (3 : Int32)
        · have hf := hf.trans (kt_eq c7)
          refine lv_tableIn (off := 74) (tgt := 75) hx hb dX3_look_1 (by rw [c7]; decide) (by rw [c7]; decide) (by rw [c7]; decide) (by decide) ?_
          refine lv_aload_n hx hb dX3_look_75 rfl (lv_at hl 0 rfl) ?_
          refine va_get (D := D) (ci := 3) (v := .int (bI v_hb)) (C := RX3) (T := TX3) (N := 8) hx hb hws inlX3 hown hK hP 0 rfl rfl 6 (by decide) (hws _ mw_168) (fun _ h9 => h9) rfl dX3_look_76 ?_
          refine lv_if_eq (tgt := 86) hx hb dX3_look_79 (by decide) (fun c8 => ?_) (fun c8 => ?_)
          · have hf := hf.trans (kt_eq c8)
            refine lv_iconst (v := 0) hx hb dX3_look_86 (by decide) ?_
            rw [← hQ]
            exact W.iret (v := (0 : Int32)) hx hb hr (fun t ht hW => ⟨⟨(0 : Int32), (), rfl, hf.symm, by rw [ht]; exact hP, va_K.moved hW.alike hK, hD⟩, hS.F ht⟩) hS.2.2 dX3_look_87
          · have hf := hf.trans (kf_eq c8)
            refine lv_iconst (v := 1) hx hb dX3_look_82 (by decide) ?_
            refine lv_goto (tgt := 87) hx hb dX3_look_83 (by decide) ?_
            rw [← hQ]
            exact W.iret (v := (1 : Int32)) hx hb hr (fun t ht hW => ⟨⟨(1 : Int32), (), rfl, hf.symm, by rw [ht]; exact hP, va_K.moved hW.alike hK, hD⟩, hS.F ht⟩) hS.2.2 dX3_look_87
        · have hf := hf.trans (kf_eq c7)
          by_cases c9 : a1 = (4 : Int32)
          · have hf := hf.trans (kt_eq c9)
            refine lv_tableIn (off := 87) (tgt := 88) hx hb dX3_look_1 (by rw [c9]; decide) (by rw [c9]; decide) (by rw [c9]; decide) (by decide) ?_
            refine lv_aload_n hx hb dX3_look_88 rfl (lv_at hl 0 rfl) ?_
            refine va_get (D := D) (ci := 3) (v := .ref me) (C := RX3) (T := TX3) (N := 8) hx hb hws inlX3 hown hK hP 0 rfl rfl 0 (by decide) (hws _ mw_15) (fun _ h9 => h9) rfl dX3_look_89 ?_
            refine va_getN (D := D) (ci := 0) (v := .int v_ct) (C := RX0) (T := TX0) (N := 2) hx hb hws inlX0 hown hK hP 1 rfl rfl 1 (by decide) (va_Nw.use (w := kx_n4) rfl hT.1.2.2.2.1) (fun _ h9 => h9) rfl dX3_look_92 ?_
            rw [← hQ]
            exact W.iret (v := v_ct) hx hb hr (fun t ht hW => ⟨⟨v_ct, (), rfl, hf.symm, by rw [ht]; exact hP, va_K.moved hW.alike hK, hD⟩, hS.F ht⟩) hS.2.2 dX3_look_95
          · have hf := hf.trans (kf_eq c9)
            refine lv_tableOut (tgt := 96) hx hb dX3_look_1 (by have n0 := lv_neT c1 (a := 0) rfl; have n1 := lv_neT c3 (a := 1) rfl; have n2 := lv_neT c5 (a := 2) rfl; have n3 := lv_neT c7 (a := 3) rfl; have n4 := lv_neT c9 (a := 4) rfl; omega) (by decide) ?_
            refine lv_iconst (v := -1) hx hb dX3_look_96 (by decide) ?_
            rw [← hQ]
            exact W.iret (v := (-1 : Int32)) hx hb hr (fun t ht hW => ⟨⟨(-1 : Int32), (), rfl, hf.symm, by rw [ht]; exact hP, va_K.moved hW.alike hK, hD⟩, hS.F ht⟩) hS.2.2 dX3_look_97
def fX3_mcycles (v_cy : Int32)  : Int32 := v_cy
def rmX3_mcycles : Room := { frames := 0, cells := 0, slots := 0, locals := 0 }
def wwX3_mcycles : List Cond := Cond.code yX3_mcycles cX3_mcycles 1 (some .int) :: wsL_law
theorem hdX3_mcycles : yX3_mcycles.cls = RX3 ∧ yX3_mcycles.cls ≠ "java/lang/invoke/MethodHandle" ∧ yX3_mcycles.cls ≠ "java/lang/invoke/VarHandle" ∧ (parseMethodDescriptor yX3_mcycles.desc).map (fun d => d.parameters.length) = some 0 := by decide +kernel
set_option maxHeartbeats 4000000 in
set_option maxRecDepth 100000 in
theorem c_X3_mcycles (l : Launch) (D : va_G) (cB : ClassId) (cI : ClassId) (gc me ba rg wa sm sz : Nat) (v_im : Bool) (v_ei : Bool) (v_ha : Bool) (v_hb : Bool) (v_cy : Int32) (v_by : Nat → Int32) (v_ct : Int32) (v_wd : Nat → Int32)   : Met l yX3_mcycles wwX3_mcycles rmX3_mcycles (va_Pc [.ref gc] (kp D (kX3 cB cI gc me ba rg wa sm v_im v_ei v_ha v_hb v_cy v_by v_ct v_wd) [(cB, .byte), (cI, .int)] sz)) (va_Qi (fun (r : Int32) (_ : Unit) => r = fX3_mcycles v_cy) (fun _ t => kq D (kX3 cB cI gc me ba rg wa sm v_im v_ei v_ha v_hb v_cy v_by v_ct v_wd) [(cB, .byte), (cI, .int)] (va_A (kX3 cB cI gc me ba rg wa sm v_im v_ei v_ha v_hb v_cy v_by v_ct v_wd) sz) t) (va_A (kX3 cB cI gc me ba rg wa sm v_im v_ei v_ha v_hb v_cy v_by v_ct v_wd) sz)) 0 0 (va_A (kX3 cB cI gc me ba rg wa sm v_im v_ei v_ha v_hb v_cy v_by v_ct v_wd) sz) := by
  refine Met.ofW (cc := cX3_mcycles) (maxL := 1) (ret := (some .int)) (by decide) rfl ?_
  intro p e s m args below meth c s₁ B hml hv
  obtain ⟨rfl, hsz, hP, hK, hD0, hT⟩ := hv
  have hx := B.exec
  have hb := B.bytes
  have hr := B.returns
  have hts := atoms_spec (ws := wwX3_mcycles) B.pre
  have hws : ∀ w ∈ wsL_law, w.before _ s = true := fun w h => hts w (List.mem_cons_of_mem _ h)
  have hown : s.vm.findClass RX3 = some m.cls := findClass_of_methodNamed B.named
  have hlocks := B.notSynchronized
  subst hsz
  have hD := hD0.self (sz := s.heap.size)
  generalize hAe : va_A (kX3 cB cI gc me ba rg wa sm v_im v_ei v_ha v_hb v_cy v_by v_ct v_wd) s.heap.size = A at hD hT ⊢
  have hA : ∀ q : Nat, s.heap.size ≤ q → A q := fun q h => by rw [← hAe]; exact Or.inr h
  have hS : va_S A s.heap s.heap [] := va_S.rf
  have hl := lv_entry ([.ref gc]) (n := 1) (Nat.le_of_ble_eq_true rfl)
  rw [lg_entry_eq]
  generalize (lg_sl ([.ref gc]) ++ List.replicate (1 - (lg_sl ([.ref gc])).length) Slot.unset).toArray = ls at hl ⊢
  have hl : lv_has ls 1 [(0, .ref gc)] := hl
  generalize hQ : MQ _ _ _ _ _ _ _ = Q
  obtain ⟨H, hHe⟩ : ∃ H : Heap, H = s.heap := ⟨_, rfl⟩
  obtain ⟨locs, hle⟩ : ∃ L : List Loc, L = [] := ⟨_, rfl⟩
  have hP : va_P D vwCl (kX3 cB cI gc me ba rg wa sm v_im v_ei v_ha v_hb v_cy v_by v_ct v_wd) H := by rw [hHe]; exact hP
  have hS : va_S A s.heap H locs := by rw [hHe, hle]; exact hS
  refine kw_start hHe.symm hle.symm ?_
  have hf : fX3_mcycles v_cy = fX3_mcycles v_cy := rfl
  refine lv_aload_n hx hb dX3_mcycles_0 rfl (lv_at hl 0 rfl) ?_
  refine va_get (D := D) (ci := 3) (v := .int v_cy) (C := RX3) (T := TX3) (N := 8) hx hb hws inlX3 hown hK hP 0 rfl rfl 7 (by decide) (hws _ mw_147) (fun _ h9 => h9) rfl dX3_mcycles_1 ?_
  rw [← hQ]
  exact W.iret (v := v_cy) hx hb hr (fun t ht hW => ⟨⟨v_cy, (), rfl, hf.symm, by rw [ht]; exact hP, va_K.moved hW.alike hK, hD⟩, hS.F ht⟩) hS.2.2 dX3_mcycles_4
