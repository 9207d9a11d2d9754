abbrev kX0 (cB : ClassId) (me ba : Nat) (v_by : Nat → Int32) (v_ct : Int32) : va_W := [(me, .inr (0, [.ref ba, .int v_ct])), (ba, .inl (cB, 65536, .inl v_by))]
abbrev kX1 (cI : ClassId) (rg wa : Nat) (v_wd : Nat → Int32) : va_W := [(rg, .inr (1, [.ref wa])), (wa, .inl (cI, 6, .inl v_wd))]
abbrev kX2 (cI : ClassId) (sm rg wa : Nat) (v_wd : Nat → Int32) : va_W := [(sm, .inr (2, [.ref rg])), (rg, .inr (1, [.ref wa])), (wa, .inl (cI, 6, .inl v_wd))]
abbrev kX3 (cB : ClassId) (cI : ClassId) (gc me ba rg wa sm : Nat) (v_im : Bool) (v_ei : Bool) (v_ha : Bool) (v_hb : Bool) (v_cy : Int32) (v_by : Nat → Int32) (v_ct : Int32) (v_wd : Nat → Int32) : va_W := [(gc, .inr (3, [.ref me, .ref rg, .ref sm, .int (bI v_im), .int (bI v_ei), .int (bI v_ha), .int (bI v_hb), .int v_cy])), (me, .inr (0, [.ref ba, .int v_ct])), (ba, .inl (cB, 65536, .inl v_by)), (rg, .inr (1, [.ref wa])), (wa, .inl (cI, 6, .inl v_wd)), (sm, .inr (2, [.ref rg]))]
abbrev kX4 (cB : ClassId) (cI : ClassId) (mo mb ma : Nat) (w_zf : Bool) (w_nf : Bool) (w_hf : Bool) (w_cf : Bool) (w_sp : Int32) (w_pc : Int32) (w_on : Bool) (w_wt : Bool) (w_ht : Bool) (w_bg : Bool) (w_cn : Int32) (w_al : Int32) (w_cl : Int32) (w_ie : Bool) (w_ww : Bool) (w_th : Int32) (w_mm : Nat → Int32) (w_bs : Nat → Int32) : va_W := [(mo, .inr (4, [.ref mb, .ref ma, .int (bI w_zf), .int (bI w_nf), .int (bI w_hf), .int (bI w_cf), .int w_sp, .int w_pc, .int (bI w_on), .int (bI w_wt), .int (bI w_ht), .int (bI w_bg), .int w_cn, .int w_al, .int w_cl, .int (bI w_ie), .int (bI w_ww), .int w_th])), (mb, .inl (cB, 65536, .inl w_mm)), (ma, .inl (cI, 8, .inl w_bs))]
def fX0_store (v_by : Nat → Int32) (a1 : Int32) (a2 : Int32) : (Nat → Int32) := (kU1 (upd v_by (a1 &&& (65535 : Int32)).toNatClampNeg (vp_nar .byte a2.toInt8.toInt32)) (fun (f1 : Nat → Int32) => f1))
def rmX0_store : Room := { frames := 0, cells := 0, slots := 0, locals := 0 }
def wwX0_store : List Cond := Cond.code yX0_store cX0_store 3 none :: wsL_law
theorem hdX0_store : yX0_store.cls = RX0 ∧ yX0_store.cls ≠ "java/lang/invoke/MethodHandle" ∧ yX0_store.cls ≠ "java/lang/invoke/VarHandle" ∧ (parseMethodDescriptor yX0_store.desc).map (fun d => d.parameters.length) = some 2 := by decide +kernel
set_option maxHeartbeats 4000000 in
set_option maxRecDepth 100000 in
theorem c_X0_store (l : Launch) (D : va_G) (cB : ClassId) (me ba sz : Nat) (v_by : Nat → Int32) (v_ct : Int32) (a1 : Int32) (a2 : Int32)  : Met l yX0_store wwX0_store rmX0_store (va_Pc [.ref me, .int a1, .int a2] (kp D (kX0 cB me ba v_by v_ct) [(cB, .byte)] sz)) (va_Qv (fun (u9 : (Nat → Int32)) => u9 = fX0_store v_by a1 a2) (fun u9 t => kq D (kX0 cB me ba u9 v_ct) [(cB, .byte)] (va_A (kX0 cB me ba v_by v_ct) sz) t) (va_A (kX0 cB me ba v_by v_ct) sz)) 0 0 (va_A (kX0 cB me ba v_by v_ct) sz) := by
  refine Met.ofW (cc := cX0_store) (maxL := 3) (ret := none) (by decide) rfl ?_
  intro p e s m args below meth c s₁ B hml hv
  obtain ⟨rfl, hsz, hP, hK, hD0, hT⟩ := hv
  have hx := B.exec
  have hb := B.bytes
  have hr := B.returns
  have hts := atoms_spec (ws := wwX0_store) B.pre
  have hws : ∀ w ∈ wsL_law, w.before _ s = true := fun w h => hts w (List.mem_cons_of_mem _ h)
  have hown : s.vm.findClass RX0 = some m.cls := findClass_of_methodNamed B.named
  have hlocks := B.notSynchronized
  subst hsz
  have hD := hD0.self (sz := s.heap.size)
  generalize hAe : va_A (kX0 cB me ba v_by v_ct) s.heap.size = A at hD hT ⊢
  have hA : ∀ q : Nat, s.heap.size ≤ q → A q := fun q h => by rw [← hAe]; exact Or.inr h
  have hS : va_S A s.heap s.heap [] := va_S.rf
  have hl := lv_entry ([.ref me, .int a1, .int a2]) (n := 3) (Nat.le_of_ble_eq_true rfl)
  rw [lg_entry_eq]
  generalize (lg_sl ([.ref me, .int a1, .int a2]) ++ List.replicate (3 - (lg_sl ([.ref me, .int a1, .int a2])).length) Slot.unset).toArray = ls at hl ⊢
  have hl : lv_has ls 3 [(0, .ref me), (1, .int a1), (2, .int a2)] := hl
  generalize hQ : MQ _ _ _ _ _ _ _ = Q
  obtain ⟨H, hHe⟩ : ∃ H : Heap, H = s.heap := ⟨_, rfl⟩
  obtain ⟨locs, hle⟩ : ∃ L : List Loc, L = [] := ⟨_, rfl⟩
  have hP : va_P D vwCl (kX0 cB me ba v_by v_ct) H := by rw [hHe]; exact hP
  have hS : va_S A s.heap H locs := by rw [hHe, hle]; exact hS
  refine kw_start hHe.symm hle.symm ?_
  have hf : fX0_store v_by a1 a2 = fX0_store v_by a1 a2 := rfl
  refine lv_aload_n hx hb dX0_store_0 rfl (lv_at hl 0 rfl) ?_
  refine va_get (D := D) (ci := 0) (v := .ref ba) (C := RX0) (T := TX0) (N := 2) hx hb hws inlX0 hown hK hP 0 rfl rfl 0 (by decide) (hws _ mw_26) (fun _ h9 => h9) rfl dX0_store_1 ?_
  refine lv_iload_n hx hb dX0_store_4 rfl (lv_at hl 1 rfl) ?_
  refine lv_ldc (v := 65535) hx hb hown (hws _ mw_55) dX0_store_5 ?_
  refine lv_iand hx hb dX0_store_7 ?_
  refine lv_iload_n hx hb dX0_store_8 rfl (lv_at hl 2 rfl) ?_
  refine lv_i2b (v := a2.toInt8.toInt32) hx hb dX0_store_9 rfl ?_
  refine va_bast hx hb hK hP hD hS 1 0 rfl rfl (ki_ffff _) dX0_store_10 (fun H locs hP hD hS => ?_)
  obtain ⟨f1, ef1⟩ : ∃ f9 : Nat → Int32, f9 = upd v_by (a1 &&& (65535 : Int32)).toNatClampNeg (vp_nar .byte a2.toInt8.toInt32) := ⟨_, rfl⟩
  have hf := hf.trans (kE1 ef1)
  have hP : va_P D vwCl (kX0 cB me ba f1 v_ct) H := by rw [ef1]; exact hP
  have hD : va_D A (kX0 cB me ba f1 v_ct) := by rw [ef1]; exact hD
  rw [← hQ]
  exact W.vret hx hb hr (fun t ht hW => ⟨⟨f1, rfl, hf.symm, by rw [ht]; exact hP, va_K.moved hW.alike hK, hD⟩, hS.F ht⟩) hS.2.2 dX0_store_11
def fX0_storeNumber_L (a1 : Int32) (a2 : Int32) (q9 : Int32 × (Nat → Int32)) : (Int32 × (Nat → Int32)) ⊕ ((Nat → Int32)) := kU2 q9 (fun (x1 : Int32) (b2 : Nat → Int32) => (kIf (kLe (4 : Int32) x1) (Sum.inr b2) (kU1 (fX0_store b2 (a1 + x1) (a2 >>> (((24 : Int32) - ((8 : Int32) * x1)) &&& (31 : Int32)))) (fun (b4 : Nat → Int32) => (kU1 (x1 + (1 : Int32)) (fun (x6 : Int32) => Sum.inl (x6, b4)))))))
def fX0_storeNumber (v_by : Nat → Int32) (a1 : Int32) (a2 : Int32) : (Nat → Int32) := (kIt (fX0_storeNumber_L a1 a2) v_by 5 ((0 : Int32), v_by))
def rmX0_storeNumber : Room := { frames := 1, cells := 0, slots := 0, locals := 22 }
def wwX0_storeNumber : List Cond := Cond.code yX0_storeNumber cX0_storeNumber 4 none :: wsL_law
theorem hdX0_storeNumber : yX0_storeNumber.cls = RX0 ∧ yX0_storeNumber.cls ≠ "java/lang/invoke/MethodHandle" ∧ yX0_storeNumber.cls ≠ "java/lang/invoke/VarHandle" ∧ (parseMethodDescriptor yX0_storeNumber.desc).map (fun d => d.parameters.length) = some 2 := by decide +kernel
set_option maxHeartbeats 4000000 in
set_option maxRecDepth 100000 in
theorem c_X0_storeNumber (l : Launch) (D : va_G) (cB : ClassId) (me ba sz : Nat) (v_by : Nat → Int32) (v_ct : Int32) (a1 : Int32) (a2 : Int32)  : Met l yX0_storeNumber wwX0_storeNumber rmX0_storeNumber (va_Pc [.ref me, .int a1, .int a2] (kp D (kX0 cB me ba v_by v_ct) [(cB, .byte)] sz)) (va_Qv (fun (u9 : (Nat → Int32)) => u9 = fX0_storeNumber v_by a1 a2) (fun u9 t => kq D (kX0 cB me ba u9 v_ct) [(cB, .byte)] (va_A (kX0 cB me ba v_by v_ct) sz) t) (va_A (kX0 cB me ba v_by v_ct) sz)) 0 0 (va_A (kX0 cB me ba v_by v_ct) sz) := by
  refine Met.ofW (cc := cX0_storeNumber) (maxL := 4) (ret := none) (by decide) rfl ?_
  intro p e s m args below meth c s₁ B hml hv
  obtain ⟨rfl, hsz, hP, hK, hD0, hT⟩ := hv
  have hx := B.exec
  have hb := B.bytes
  have hr := B.returns
  have hts := atoms_spec (ws := wwX0_storeNumber) B.pre
  have hws : ∀ w ∈ wsL_law, w.before _ s = true := fun w h => hts w (List.mem_cons_of_mem _ h)
  have hown : s.vm.findClass RX0 = some m.cls := findClass_of_methodNamed B.named
  have hlocks := B.notSynchronized
  subst hsz
  have hD := hD0.self (sz := s.heap.size)
  generalize hAe : va_A (kX0 cB me ba v_by v_ct) s.heap.size = A at hD hT ⊢
  have hA : ∀ q : Nat, s.heap.size ≤ q → A q := fun q h => by rw [← hAe]; exact Or.inr h
  have hS : va_S A s.heap s.heap [] := va_S.rf
  have hl := lv_entry ([.ref me, .int a1, .int a2]) (n := 4) (Nat.le_of_ble_eq_true rfl)
  rw [lg_entry_eq]
  generalize (lg_sl ([.ref me, .int a1, .int a2]) ++ List.replicate (4 - (lg_sl ([.ref me, .int a1, .int a2])).length) Slot.unset).toArray = ls at hl ⊢
  have hl : lv_has ls 4 [(0, .ref me), (1, .int a1), (2, .int a2)] := hl
  generalize hQ : MQ _ _ _ _ _ _ _ = Q
  obtain ⟨H, hHe⟩ : ∃ H : Heap, H = s.heap := ⟨_, rfl⟩
  obtain ⟨locs, hle⟩ : ∃ L : List Loc, L = [] := ⟨_, rfl⟩
  have hP : va_P D vwCl (kX0 cB me ba v_by v_ct) H := by rw [hHe]; exact hP
  have hS : va_S A s.heap H locs := by rw [hHe, hle]; exact hS
  refine kw_start hHe.symm hle.symm ?_
  have hf : fX0_storeNumber v_by a1 a2 = fX0_storeNumber v_by a1 a2 := rfl
  refine lv_iconst (v := 0) hx hb dX0_storeNumber_0 (by decide) ?_
  refine lv_istore_n (lv' := [(3, .int (0 : Int32)), (0, .ref me), (1, .int a1), (2, .int a2)]) hx hb dX0_storeNumber_1 rfl hl (by decide) rfl (fun ls hl => ?_)
  have hLp : ∀ (n9 : Nat) (x1 : Int32) (b2 : Nat → Int32), kT 4 x1 n9 → fX0_storeNumber v_by a1 a2 = kIt (fX0_storeNumber_L a1 a2) v_by n9 (x1, b2) → ∀ (H : Heap) (locs : List Loc) (ls : Array Slot), lv_has ls 4 [(3, .int x1), (0, .ref me), (1, .int a1), (2, .int a2)] → va_P D vwCl (kX0 cB me ba b2 v_ct) H → va_D A (kX0 cB me ba b2 v_ct) → va_S A s.heap H locs → W p l e (headSpec wwX0_storeNumber rmX0_storeNumber).room s m ([.ref me, .int a1, .int a2] : List Value).toArray below meth c H locs 0 0 Q (F0 m 2 ls []) := by
    intro n9
    induction n9 with
    | zero => intro x1 b2 ht9 hF H locs ls hl hP hD hS; exact absurd ht9 kT_0
    | succ n9 ih =>
      intro x1 b2 ht9 hF H locs ls hl hP hD hS
      have hf : fX0_storeNumber_L a1 a2 (x1, b2) = _ := kE2 rfl
      refine lv_iload_n hx hb dX0_storeNumber_2 rfl (lv_at hl 0 rfl) ?_
      refine lv_iconst (v := 4) hx hb dX0_storeNumber_3 (by decide) ?_
      refine lv_icmp_ge (tgt := 29) hx hb dX0_storeNumber_4 (by decide) (fun c3 => ?_) (fun c3 => ?_)
      · have hf := hf.trans (kt_le c3)
        have hf := hF.trans (kI_inr hf)
        rw [← hQ]
        exact W.vret hx hb hr (fun t ht hW => ⟨⟨b2, rfl, hf.symm, by rw [ht]; exact hP, va_K.moved hW.alike hK, hD⟩, hS.F ht⟩) hS.2.2 dX0_storeNumber_29
      · have hf := hf.trans (kf_le c3)
        refine lv_aload_n hx hb dX0_storeNumber_7 rfl (lv_at hl 1 rfl) ?_
        refine lv_iload_n hx hb dX0_storeNumber_8 rfl (lv_at hl 2 rfl) ?_
        refine lv_iload_n hx hb dX0_storeNumber_9 rfl (lv_at hl 0 rfl) ?_
        refine lv_iadd hx hb dX0_storeNumber_10 ?_
        refine lv_iload_n hx hb dX0_storeNumber_11 rfl (lv_at hl 3 rfl) ?_
        refine lv_bipush (v := 24) hx hb dX0_storeNumber_12 (by decide) ?_
        refine lv_bipush (v := 8) hx hb dX0_storeNumber_14 (by decide) ?_
        refine lv_iload_n hx hb dX0_storeNumber_16 rfl (lv_at hl 0 rfl) ?_
        refine lv_imul hx hb dX0_storeNumber_17 ?_
        refine lv_isub hx hb dX0_storeNumber_18 ?_
        refine lv_ishr hx hb dX0_storeNumber_19 ?_
        refine kc_Vv (wr := []) (As := [.int (a1 + x1), .int (a2 >>> (((24 : Int32) - ((8 : Int32) * x1)) &&& (31 : Int32)))]) (rest := []) (fun u9 => (kX0 cB me ba u9 v_ct)) ⟨hx, hb, hml, hown, hws⟩ hK hP hD hS hA hT (c_X0_store l D cB me ba H.size b2 v_ct (a1 + x1) (a2 >>> (((24 : Int32) - ((8 : Int32) * x1)) &&& (31 : Int32)))) (cwV 2 hws (gw_V mw_75 mw_52 mw_53 mw_14 mw_54) rfl rfl rfl hdX0_store ⟨Nat.le_of_ble_eq_true rfl, Nat.le_of_ble_eq_true rfl⟩) [0, 1] [] [0] [0, 1] rfl rfl rfl rfl (by decide) rfl (fun _ => rfl) rfl 0 rfl rfl rfl rfl hl.1 rfl (Nat.le_of_ble_eq_true rfl) dX0_storeNumber_20 ⟨Nat.zero_le _, Nat.zero_le _⟩ (fun b4 H locs hw5 hP hD hS => ?_)
        have hP : va_P D vwCl (kX0 cB me ba b4 v_ct) H := hP
        have hD : va_D A (kX0 cB me ba b4 v_ct) := hD
        have hf := hf.trans (kE1 hw5)
        obtain ⟨x6, ex6⟩ : ∃ y9 : Int32, y9 = x1 + (1 : Int32) := ⟨_, rfl⟩
        have hf := hf.trans (kE1 ex6)
        refine lv_iinc (v := x6) (lv' := [(3, .int x6), (0, .ref me), (1, .int a1), (2, .int a2)]) hx hb dX0_storeNumber_23 hl (k := 0) rfl (by rw [ex6]; rfl) (by decide) rfl (fun ls hl => ?_)
        refine lv_goto (tgt := 2) hx hb dX0_storeNumber_26 (by decide) ?_
        exact ih x6 b4 (kT_step ex6 (by decide) rfl c3 ht9) (hF.trans (kI_inl hf)) H locs ls (lv_sub hl [0, 1, 2, 3] rfl) hP hD hS
  exact hLp 5 (0 : Int32) v_by (kT_init 4) hf H locs ls (lv_sub hl [0, 1, 2, 3] rfl) hP hD hS
def fX0_at (v_by : Nat → Int32) (a1 : Int32) : Int32 := ((v_by (a1 &&& (65535 : Int32)).toNatClampNeg) &&& (255 : Int32))
def rmX0_at : Room := { frames := 0, cells := 0, slots := 0, locals := 0 }
def wwX0_at : List Cond := Cond.code yX0_at cX0_at 2 (some .int) :: wsL_law
theorem hdX0_at : yX0_at.cls = RX0 ∧ yX0_at.cls ≠ "java/lang/invoke/MethodHandle" ∧ yX0_at.cls ≠ "java/lang/invoke/VarHandle" ∧ (parseMethodDescriptor yX0_at.desc).map (fun d => d.parameters.length) = some 1 := by decide +kernel
set_option maxHeartbeats 4000000 in
set_option maxRecDepth 100000 in
theorem c_X0_at (l : Launch) (D : va_G) (cB : ClassId) (me ba sz : Nat) (v_by : Nat → Int32) (v_ct : Int32) (a1 : Int32)  : Met l yX0_at wwX0_at rmX0_at (va_Pc [.ref me, .int a1] (kp D (kX0 cB me ba v_by v_ct) [(cB, .byte)] sz)) (va_Qi (fun (r : Int32) (_ : Unit) => r = fX0_at v_by a1) (fun _ t => kq D (kX0 cB me ba v_by v_ct) [(cB, .byte)] (va_A (kX0 cB me ba v_by v_ct) sz) t) (va_A (kX0 cB me ba v_by v_ct) sz)) 0 0 (va_A (kX0 cB me ba v_by v_ct) sz) := by
  refine Met.ofW (cc := cX0_at) (maxL := 2) (ret := (some .int)) (by decide) rfl ?_
  intro p e s m args below meth c s₁ B hml hv
  obtain ⟨rfl, hsz, hP, hK, hD0, hT⟩ := hv
  have hx := B.exec
  have hb := B.bytes
  have hr := B.returns
  have hts := atoms_spec (ws := wwX0_at) B.pre
  have hws : ∀ w ∈ wsL_law, w.before _ s = true := fun w h => hts w (List.mem_cons_of_mem _ h)
  have hown : s.vm.findClass RX0 = some m.cls := findClass_of_methodNamed B.named
  have hlocks := B.notSynchronized
  subst hsz
  have hD := hD0.self (sz := s.heap.size)
  generalize hAe : va_A (kX0 cB me ba v_by v_ct) s.heap.size = A at hD hT ⊢
  have hA : ∀ q : Nat, s.heap.size ≤ q → A q := fun q h => by rw [← hAe]; exact Or.inr h
  have hS : va_S A s.heap s.heap [] := va_S.rf
  have hl := lv_entry ([.ref me, .int a1]) (n := 2) (Nat.le_of_ble_eq_true rfl)
  rw [lg_entry_eq]
  generalize (lg_sl ([.ref me, .int a1]) ++ List.replicate (2 - (lg_sl ([.ref me, .int a1])).length) Slot.unset).toArray = ls at hl ⊢
  have hl : lv_has ls 2 [(0, .ref me), (1, .int a1)] := hl
  generalize hQ : MQ _ _ _ _ _ _ _ = Q
  obtain ⟨H, hHe⟩ : ∃ H : Heap, H = s.heap := ⟨_, rfl⟩
  obtain ⟨locs, hle⟩ : ∃ L : List Loc, L = [] := ⟨_, rfl⟩
  have hP : va_P D vwCl (kX0 cB me ba v_by v_ct) H := by rw [hHe]; exact hP
  have hS : va_S A s.heap H locs := by rw [hHe, hle]; exact hS
  refine kw_start hHe.symm hle.symm ?_
  have hf : fX0_at v_by a1 = fX0_at v_by a1 := rfl
  refine lv_aload_n hx hb dX0_at_0 rfl (lv_at hl 0 rfl) ?_
  refine va_get (D := D) (ci := 0) (v := .ref ba) (C := RX0) (T := TX0) (N := 2) hx hb hws inlX0 hown hK hP 0 rfl rfl 0 (by decide) (hws _ mw_26) (fun _ h9 => h9) rfl dX0_at_1 ?_
  refine lv_iload_n hx hb dX0_at_4 rfl (lv_at hl 1 rfl) ?_
  refine lv_ldc (v := 65535) hx hb hown (hws _ mw_55) dX0_at_5 ?_
  refine lv_iand hx hb dX0_at_7 ?_
  refine va_bald hx hb hK hP 1 0 rfl rfl (ki_ffff _) dX0_at_8 ?_
  refine lv_sipush (v := 255) hx hb dX0_at_9 (by decide) ?_
  refine lv_iand hx hb dX0_at_12 ?_
  rw [← hQ]
  exact W.iret (v := ((v_by (a1 &&& (65535 : Int32)).toNatClampNeg) &&& (255 : Int32))) hx hb hr (fun t ht hW => ⟨⟨((v_by (a1 &&& (65535 : Int32)).toNatClampNeg) &&& (255 : Int32)), (), rfl, hf.symm, by rw [ht]; exact hP, va_K.moved hW.alike hK, hD⟩, hS.F ht⟩) hS.2.2 dX0_at_13
def fX0_pending (v_by : Nat → Int32)  : Int32 := (kU1 (fX0_at v_by (65535 : Int32)) (fun (r2 : Int32) => (kU1 (fX0_at v_by (65295 : Int32)) (fun (r4 : Int32) => ((r2 &&& r4) &&& (31 : Int32))))))
def rmX0_pending : Room := { frames := 1, cells := 0, slots := 0, locals := 21 }
def wwX0_pending : List Cond := Cond.code yX0_pending cX0_pending 1 (some .int) :: wsL_law
theorem hdX0_pending : yX0_pending.cls = RX0 ∧ yX0_pending.cls ≠ "java/lang/invoke/MethodHandle" ∧ yX0_pending.cls ≠ "java/lang/invoke/VarHandle" ∧ (parseMethodDescriptor yX0_pending.desc).map (fun d => d.parameters.length) = some 0 := by decide +kernel
set_option maxHeartbeats 4000000 in
set_option maxRecDepth 100000 in
theorem c_X0_pending (l : Launch) (D : va_G) (cB : ClassId) (me ba sz : Nat) (v_by : Nat → Int32) (v_ct : Int32)   : Met l yX0_pending wwX0_pending rmX0_pending (va_Pc [.ref me] (kp D (kX0 cB me ba v_by v_ct) [(cB, .byte)] sz)) (va_Qi (fun (r : Int32) (_ : Unit) => r = fX0_pending v_by) (fun _ t => kq D (kX0 cB me ba v_by v_ct) [(cB, .byte)] (va_A (kX0 cB me ba v_by v_ct) sz) t) (va_A (kX0 cB me ba v_by v_ct) sz)) 0 0 (va_A (kX0 cB me ba v_by v_ct) sz) := by
  refine Met.ofW (cc := cX0_pending) (maxL := 1) (ret := (some .int)) (by decide) rfl ?_
  intro p e s m args below meth c s₁ B hml hv
  obtain ⟨rfl, hsz, hP, hK, hD0, hT⟩ := hv
  have hx := B.exec
  have hb := B.bytes
  have hr := B.returns
  have hts := atoms_spec (ws := wwX0_pending) B.pre
  have hws : ∀ w ∈ wsL_law, w.before _ s = true := fun w h => hts w (List.mem_cons_of_mem _ h)
  have hown : s.vm.findClass RX0 = some m.cls := findClass_of_methodNamed B.named
  have hlocks := B.notSynchronized
  subst hsz
  have hD := hD0.self (sz := s.heap.size)
  generalize hAe : va_A (kX0 cB me ba v_by v_ct) s.heap.size = A at hD hT ⊢
  have hA : ∀ q : Nat, s.heap.size ≤ q → A q := fun q h => by rw [← hAe]; exact Or.inr h
  have hS : va_S A s.heap s.heap [] := va_S.rf
  have hl := lv_entry ([.ref me]) (n := 1) (Nat.le_of_ble_eq_true rfl)
  rw [lg_entry_eq]
  generalize (lg_sl ([.ref me]) ++ List.replicate (1 - (lg_sl ([.ref me])).length) Slot.unset).toArray = ls at hl ⊢
  have hl : lv_has ls 1 [(0, .ref me)] := hl
  generalize hQ : MQ _ _ _ _ _ _ _ = Q
  obtain ⟨H, hHe⟩ : ∃ H : Heap, H = s.heap := ⟨_, rfl⟩
  obtain ⟨locs, hle⟩ : ∃ L : List Loc, L = [] := ⟨_, rfl⟩
  have hP : va_P D vwCl (kX0 cB me ba v_by v_ct) H := by rw [hHe]; exact hP
  have hS : va_S A s.heap H locs := by rw [hHe, hle]; exact hS
  refine kw_start hHe.symm hle.symm ?_
  have hf : fX0_pending v_by = fX0_pending v_by := rfl
  refine lv_aload_n hx hb dX0_pending_0 rfl (lv_at hl 0 rfl) ?_
  refine lv_ldc (v := 65535) hx hb hown (hws _ mw_55) dX0_pending_1 ?_
  refine kc_Vi (wr := []) (As := [.int (65535 : Int32)]) (rest := []) (fun _ => (kX0 cB me ba v_by v_ct)) ⟨hx, hb, hml, hown, hws⟩ hK hP hD hS hA hT (c_X0_at l D cB me ba H.size v_by v_ct (65535 : Int32)) (cwV 1 hws (gw_V mw_114 mw_86 mw_87 mw_14 mw_88) rfl rfl rfl hdX0_at ⟨Nat.le_of_ble_eq_true rfl, Nat.le_of_ble_eq_true rfl⟩) [0, 1] [] [0] [0, 1] rfl rfl rfl rfl (by decide) rfl (fun _ => rfl) rfl 0 rfl rfl rfl rfl hl.1 rfl (Nat.le_of_ble_eq_true rfl) dX0_pending_3 ⟨Nat.zero_le _, Nat.zero_le _⟩ (fun r2 _ H locs hw1 hP hD hS => ?_)
  have hP : va_P D vwCl (kX0 cB me ba v_by v_ct) H := hP
  have hD : va_D A (kX0 cB me ba v_by v_ct) := hD
  have hf := hf.trans (kE1 hw1)
  refine lv_aload_n hx hb dX0_pending_6 rfl (lv_at hl 0 rfl) ?_
  refine lv_ldc (v := 65295) hx hb hown (hws _ mw_113) dX0_pending_7 ?_
  refine kc_Vi (wr := []) (As := [.int (65295 : Int32)]) (rest := [.int r2]) (fun _ => (kX0 cB me ba v_by v_ct)) ⟨hx, hb, hml, hown, hws⟩ hK hP hD hS hA hT (c_X0_at l D cB me ba H.size v_by v_ct (65295 : Int32)) (cwV 1 hws (gw_V mw_114 mw_86 mw_87 mw_14 mw_88) rfl rfl rfl hdX0_at ⟨Nat.le_of_ble_eq_true rfl, Nat.le_of_ble_eq_true rfl⟩) [0, 1] [] [0] [0, 1] rfl rfl rfl rfl (by decide) rfl (fun _ => rfl) rfl 0 rfl rfl rfl rfl hl.1 rfl (Nat.le_of_ble_eq_true rfl) dX0_pending_9 ⟨Nat.zero_le _, Nat.zero_le _⟩ (fun r4 _ H locs hw3 hP hD hS => ?_)
  have hP : va_P D vwCl (kX0 cB me ba v_by v_ct) H := hP
  have hD : va_D A (kX0 cB me ba v_by v_ct) := hD
  have hf := hf.trans (kE1 hw3)
  refine lv_iand hx hb dX0_pending_12 ?_
  refine lv_bipush (v := 31) hx hb dX0_pending_13 (by decide) ?_
  refine lv_iand hx hb dX0_pending_15 ?_
  rw [← hQ]
  exact W.iret (v := ((r2 &&& r4) &&& (31 : Int32))) hx hb hr (fun t ht hW => ⟨⟨((r2 &&& r4) &&& (31 : Int32)), (), rfl, hf.symm, by rw [ht]; exact hP, va_K.moved hW.alike hK, hD⟩, hS.F ht⟩) hS.2.2 dX0_pending_16
def fX0_clearInterrupt (v_by : Nat → Int32) (a1 : Int32) : (Nat → Int32) := (kU1 (fX0_at v_by (65295 : Int32)) (fun (r2 : Int32) => (kU1 (fX0_store v_by (65295 : Int32) (r2 &&& (((1 : Int32) <<< (a1 &&& (31 : Int32))) ^^^ (-1 : Int32)))) (fun (b3 : Nat → Int32) => b3))))
def rmX0_clearInterrupt : Room := { frames := 1, cells := 0, slots := 0, locals := 22 }
def wwX0_clearInterrupt : List Cond := Cond.code yX0_clearInterrupt cX0_clearInterrupt 2 none :: wsL_law
theorem hdX0_clearInterrupt : yX0_clearInterrupt.cls = RX0 ∧ yX0_clearInterrupt.cls ≠ "java/lang/invoke/MethodHandle" ∧ yX0_clearInterrupt.cls ≠ "java/lang/invoke/VarHandle" ∧ (parseMethodDescriptor yX0_clearInterrupt.desc).map (fun d => d.parameters.length) = some 1 := by decide +kernel
set_option maxHeartbeats 4000000 in
set_option maxRecDepth 100000 in
theorem c_X0_clearInterrupt (l : Launch) (D : va_G) (cB : ClassId) (me ba sz : Nat) (v_by : Nat → Int32) (v_ct : Int32) (a1 : Int32)  : Met l yX0_clearInterrupt wwX0_clearInterrupt rmX0_clearInterrupt (va_Pc [.ref me, .int a1] (kp D (kX0 cB me ba v_by v_ct) [(cB, .byte)] sz)) (va_Qv (fun (u9 : (Nat → Int32)) => u9 = fX0_clearInterrupt v_by a1) (fun u9 t => kq D (kX0 cB me ba u9 v_ct) [(cB, .byte)] (va_A (kX0 cB me ba v_by v_ct) sz) t) (va_A (kX0 cB me ba v_by v_ct) sz)) 0 0 (va_A (kX0 cB me ba v_by v_ct) sz) := by
  refine Met.ofW (cc := cX0_clearInterrupt) (maxL := 2) (ret := none) (by decide) rfl ?_
  intro p e s m args below meth c s₁ B hml hv
  obtain ⟨rfl, hsz, hP, hK, hD0, hT⟩ := hv
  have hx := B.exec
  have hb := B.bytes
  have hr := B.returns
  have hts := atoms_spec (ws := wwX0_clearInterrupt) B.pre
  have hws : ∀ w ∈ wsL_law, w.before _ s = true := fun w h => hts w (List.mem_cons_of_mem _ h)
  have hown : s.vm.findClass RX0 = some m.cls := findClass_of_methodNamed B.named
  have hlocks := B.notSynchronized
  subst hsz
  have hD := hD0.self (sz := s.heap.size)
  generalize hAe : va_A (kX0 cB me ba v_by v_ct) s.heap.size = A at hD hT ⊢
  have hA : ∀ q : Nat, s.heap.size ≤ q → A q := fun q h => by rw [← hAe]; exact Or.inr h
  have hS : va_S A s.heap s.heap [] := va_S.rf
  have hl := lv_entry ([.ref me, .int a1]) (n := 2) (Nat.le_of_ble_eq_true rfl)
  rw [lg_entry_eq]
  generalize (lg_sl ([.ref me, .int a1]) ++ List.replicate (2 - (lg_sl ([.ref me, .int a1])).length) Slot.unset).toArray = ls at hl ⊢
  have hl : lv_has ls 2 [(0, .ref me), (1, .int a1)] := hl
  generalize hQ : MQ _ _ _ _ _ _ _ = Q
  obtain ⟨H, hHe⟩ : ∃ H : Heap, H = s.heap := ⟨_, rfl⟩
  obtain ⟨locs, hle⟩ : ∃ L : List Loc, L = [] := ⟨_, rfl⟩
  have hP : va_P D vwCl (kX0 cB me ba v_by v_ct) H := by rw [hHe]; exact hP
  have hS : va_S A s.heap H locs := by rw [hHe, hle]; exact hS
  refine kw_start hHe.symm hle.symm ?_
  have hf : fX0_clearInterrupt v_by a1 = fX0_clearInterrupt v_by a1 := rfl
  refine lv_aload_n hx hb dX0_clearInterrupt_0 rfl (lv_at hl 0 rfl) ?_
  refine lv_ldc (v := 65295) hx hb hown (hws _ mw_113) dX0_clearInterrupt_1 ?_
  refine lv_aload_n hx hb dX0_clearInterrupt_3 rfl (lv_at hl 0 rfl) ?_
  refine lv_ldc (v := 65295) hx hb hown (hws _ mw_113) dX0_clearInterrupt_4 ?_
  refine kc_Vi (wr := []) (As := [.int (65295 : Int32)]) (rest := [.int (65295 : Int32), .ref me]) (fun _ => (kX0 cB me ba v_by v_ct)) ⟨hx, hb, hml, hown, hws⟩ hK hP hD hS hA hT (c_X0_at l D cB me ba H.size v_by v_ct (65295 : Int32)) (cwV 1 hws (gw_V mw_114 mw_86 mw_87 mw_14 mw_88) rfl rfl rfl hdX0_at ⟨Nat.le_of_ble_eq_true rfl, Nat.le_of_ble_eq_true rfl⟩) [0, 1] [] [0] [0, 1] rfl rfl rfl rfl (by decide) rfl (fun _ => rfl) rfl 0 rfl rfl rfl rfl hl.1 rfl (Nat.le_of_ble_eq_true rfl) dX0_clearInterrupt_6 ⟨Nat.zero_le _, Nat.zero_le _⟩ (fun r2 _ H locs hw1 hP hD hS => ?_)
  have hP : va_P D vwCl (kX0 cB me ba v_by v_ct) H := hP
  have hD : va_D A (kX0 cB me ba v_by v_ct) := hD
  have hf := hf.trans (kE1 hw1)
  refine lv_iconst (v := 1) hx hb dX0_clearInterrupt_9 (by decide) ?_
  refine lv_iload_n hx hb dX0_clearInterrupt_10 rfl (lv_at hl 1 rfl) ?_
  refine lv_ishl hx hb dX0_clearInterrupt_11 ?_
  refine lv_iconst (v := -1) hx hb dX0_clearInterrupt_12 (by decide) ?_
  refine lv_ixor hx hb dX0_clearInterrupt_13 ?_
  refine lv_iand hx hb dX0_clearInterrupt_14 ?_
  refine kc_Vv (wr := []) (As := [.int (65295 : Int32), .int (r2 &&& (((1 : Int32) <<< (a1 &&& (31 : Int32))) ^^^ (-1 : Int32)))]) (rest := []) (fun u9 => (kX0 cB me ba u9 v_ct)) ⟨hx, hb, hml, hown, hws⟩ hK hP hD hS hA hT (c_X0_store l D cB me ba H.size v_by v_ct (65295 : Int32) (r2 &&& (((1 : Int32) <<< (a1 &&& (31 : Int32))) ^^^ (-1 : Int32)))) (cwV 2 hws (gw_V mw_75 mw_52 mw_53 mw_14 mw_54) rfl rfl rfl hdX0_store ⟨Nat.le_of_ble_eq_true rfl, Nat.le_of_ble_eq_true rfl⟩) [0, 1] [] [0] [0, 1] rfl rfl rfl rfl (by decide) rfl (fun _ => rfl) rfl 0 rfl rfl rfl rfl hl.1 rfl (Nat.le_of_ble_eq_true rfl) dX0_clearInterrupt_15 ⟨Nat.zero_le _, Nat.zero_le _⟩ (fun b3 H locs hw4 hP hD hS => ?_)
  have hP : va_P D vwCl (kX0 cB me ba b3 v_ct) H := hP
  have hD : va_D A (kX0 cB me ba b3 v_ct) := hD
  have hf := hf.trans (kE1 hw4)
  rw [← hQ]
  exact W.vret hx hb hr (fun t ht hW => ⟨⟨b3, rfl, hf.symm, by rw [ht]; exact hP, va_K.moved hW.alike hK, hD⟩, hS.F ht⟩) hS.2.2 dX0_clearInterrupt_18
def fX0_write (v_by : Nat → Int32) (v_ct : Int32) (a1 : Int32) (a2 : Int32) : (Nat → Int32) × Int32 := (kIf (kEq (a1 &&& (65535 : Int32)) (65284 : Int32)) (kU1 (upd v_by (65284 : Int32).toNatClampNeg (vp_nar .byte (0 : Int32))) (fun (f3 : Nat → Int32) => (f3, (0 : Int32)))) (kU1 (upd v_by (a1 &&& (65535 : Int32)).toNatClampNeg (vp_nar .byte a2.toInt8.toInt32)) (fun (f2 : Nat → Int32) => (f2, v_ct))))
def rmX0_write : Room := { frames := 0, cells := 0, slots := 0, locals := 0 }
def wwX0_write : List Cond := Cond.code yX0_write cX0_write 3 none :: wsL_law
theorem hdX0_write : yX0_write.cls = RX0 ∧ yX0_write.cls ≠ "java/lang/invoke/MethodHandle" ∧ yX0_write.cls ≠ "java/lang/invoke/VarHandle" ∧ (parseMethodDescriptor yX0_write.desc).map (fun d => d.parameters.length) = some 2 := by decide +kernel
set_option maxHeartbeats 4000000 in
set_option maxRecDepth 100000 in
theorem c_X0_write (l : Launch) (D : va_G) (cB : ClassId) (me ba sz : Nat) (v_by : Nat → Int32) (v_ct : Int32) (a1 : Int32) (a2 : Int32)  : Met l yX0_write wwX0_write rmX0_write (va_Pc [.ref me, .int a1, .int a2] (kp D (kX0 cB me ba v_by v_ct) [(cB, .byte)] sz)) (va_Qv (fun (u9 : (Nat → Int32) × Int32) => u9 = fX0_write v_by v_ct a1 a2) (fun u9 t => kq D (kX0 cB me ba (u9.1) (u9.2)) [(cB, .byte)] (va_A (kX0 cB me ba v_by v_ct) sz) t) (va_A (kX0 cB me ba v_by v_ct) sz)) 0 0 (va_A (kX0 cB me ba v_by v_ct) sz) := by
  refine Met.ofW (cc := cX0_write) (maxL := 3) (ret := none) (by decide) rfl ?_
  intro p e s m args below meth c s₁ B hml hv
  obtain ⟨rfl, hsz, hP, hK, hD0, hT⟩ := hv
  have hx := B.exec
  have hb := B.bytes
  have hr := B.returns
  have hts := atoms_spec (ws := wwX0_write) B.pre
  have hws : ∀ w ∈ wsL_law, w.before _ s = true := fun w h => hts w (List.mem_cons_of_mem _ h)
  have hown : s.vm.findClass RX0 = some m.cls := findClass_of_methodNamed B.named
  have hlocks := B.notSynchronized
  subst hsz
  have hD := hD0.self (sz := s.heap.size)
  generalize hAe : va_A (kX0 cB me ba v_by v_ct) s.heap.size = A at hD hT ⊢
  have hA : ∀ q : Nat, s.heap.size ≤ q → A q := fun q h => by rw [← hAe]; exact Or.inr h
  have hS : va_S A s.heap s.heap [] := va_S.rf
  have hl := lv_entry ([.ref me, .int a1, .int a2]) (n := 3) (Nat.le_of_ble_eq_true rfl)
  rw [lg_entry_eq]
  generalize (lg_sl ([.ref me, .int a1, .int a2]) ++ List.replicate (3 - (lg_sl ([.ref me, .int a1, .int a2])).length) Slot.unset).toArray = ls at hl ⊢
  have hl : lv_has ls 3 [(0, .ref me), (1, .int a1), (2, .int a2)] := hl
  generalize hQ : MQ _ _ _ _ _ _ _ = Q
  obtain ⟨H, hHe⟩ : ∃ H : Heap, H = s.heap := ⟨_, rfl⟩
  obtain ⟨locs, hle⟩ : ∃ L : List Loc, L = [] := ⟨_, rfl⟩
  have hP : va_P D vwCl (kX0 cB me ba v_by v_ct) H := by rw [hHe]; exact hP
  have hS : va_S A s.heap H locs := by rw [hHe, hle]; exact hS
  refine kw_start hHe.symm hle.symm ?_
  have hf : fX0_write v_by v_ct a1 a2 = fX0_write v_by v_ct a1 a2 := rfl
  refine lv_iload_n hx hb dX0_write_0 rfl (lv_at hl 1 rfl) ?_
  refine lv_ldc (v := 65535) hx hb hown (hws _ mw_55) dX0_write_1 ?_
  refine lv_iand hx hb dX0_write_3 ?_
  refine lv_ldc (v := 65284) hx hb hown (hws _ mw_135) dX0_write_4 ?_
  refine lv_icmp_ne (tgt := 25) hx hb dX0_write_6 (by decide) (fun c1 => ?_) (fun c1 => ?_)
  · have hf := hf.trans (kf_eq c1)
    refine lv_aload_n hx hb dX0_write_25 rfl (lv_at hl 0 rfl) ?_
    refine va_get (D := D) (ci := 0) (v := .ref ba) (C := RX0) (T := TX0) (N := 2) hx hb hws inlX0 hown hK hP 0 rfl rfl 0 (by decide) (hws _ mw_26) (fun _ h9 => h9) rfl dX0_write_26 ?_
    refine lv_iload_n hx hb dX0_write_29 rfl (lv_at hl 1 rfl) ?_
    refine lv_ldc (v := 65535) hx hb hown (hws _ mw_55) dX0_write_30 ?_
    refine lv_iand hx hb dX0_write_32 ?_
    refine lv_iload_n hx hb dX0_write_33 rfl (lv_at hl 2 rfl) ?_
    refine lv_i2b (v := a2.toInt8.toInt32) hx hb dX0_write_34 rfl ?_
    refine va_bast hx hb hK hP hD hS 1 0 rfl rfl (ki_ffff _) dX0_write_35 (fun H locs hP hD hS => ?_)
    obtain ⟨f2, ef2⟩ : ∃ f9 : Nat → Int32, f9 = upd v_by (a1 &&& (65535 : Int32)).toNatClampNeg (vp_nar .byte a2.toInt8.toInt32) := ⟨_, rfl⟩
    have hf := hf.trans (kE1 ef2)
    have hP : va_P D vwCl (kX0 cB me ba f2 v_ct) H := by rw [ef2]; exact hP
    have hD : va_D A (kX0 cB me ba f2 v_ct) := by rw [ef2]; exact hD
    rw [← hQ]
    exact W.vret hx hb hr (fun t ht hW => ⟨⟨(f2, v_ct), rfl, hf.symm, by rw [ht]; exact hP, va_K.moved hW.alike hK, hD⟩, hS.F ht⟩) hS.2.2 dX0_write_36
  · have hf := hf.trans (kt_eq c1)
    refine lv_aload_n hx hb dX0_write_9 rfl (lv_at hl 0 rfl) ?_
    refine lv_iconst (v := 0) hx hb dX0_write_10 (by decide) ?_
    refine va_put (D := D) (ci := 0) (v := .int (0 : Int32)) (ty := .int) (C := RX0) (T := TX0) (N := 2) hx hb hws inlX0 tyX0 tyX0_ok nmX0 hown hK hP hD hS 0 rfl rfl 1 (by decide) (hws _ mw_136) (fun _ h9 => h9) rfl (tyX0_ok 1 (by decide)) rfl rfl (Nat.le_of_ble_eq_true rfl) dX0_write_11 (fun H locs hP hD hS => ?_)
    have hP : va_P D vwCl (kX0 cB me ba v_by (0 : Int32)) H := hP
    have hD : va_D A (kX0 cB me ba v_by (0 : Int32)) := hD
    refine lv_aload_n hx hb dX0_write_14 rfl (lv_at hl 0 rfl) ?_
    refine va_get (D := D) (ci := 0) (v := .ref ba) (C := RX0) (T := TX0) (N := 2) hx hb hws inlX0 hown hK hP 0 rfl rfl 0 (by decide) (hws _ mw_26) (fun _ h9 => h9) rfl dX0_write_15 ?_
    refine lv_ldc (v := 65284) hx hb hown (hws _ mw_135) dX0_write_18 ?_
    refine lv_iconst (v := 0) hx hb dX0_write_20 (by decide) ?_
    refine va_bast hx hb hK hP hD hS 1 0 rfl rfl (by unfold vp_in; decide) dX0_write_21 (fun H locs hP hD hS => ?_)
    obtain ⟨f3, ef3⟩ : ∃ f9 : Nat → Int32, f9 = upd v_by (65284 : Int32).toNatClampNeg (vp_nar .byte (0 : Int32)) := ⟨_, rfl⟩
    have hf := hf.trans (kE1 ef3)
    have hP : va_P D vwCl (kX0 cB me ba f3 (0 : Int32)) H := by rw [ef3]; exact hP
    have hD : va_D A (kX0 cB me ba f3 (0 : Int32)) := by rw [ef3]; exact hD
    refine lv_goto (tgt := 36) hx hb dX0_write_22 (by decide) ?_
    rw [← hQ]
    exact W.vret hx hb hr (fun t ht hW => ⟨⟨(f3, (0 : Int32)), rfl, hf.symm, by rw [ht]; exact hP, va_K.moved hW.alike hK, hD⟩, hS.F ht⟩) hS.2.2 dX0_write_36
def fX0_raiseInterrupts (v_by : Nat → Int32) (a1 : Int32) : (Nat → Int32) := (kU1 (fX0_at v_by (65295 : Int32)) (fun (r2 : Int32) => (kU1 (fX0_store v_by (65295 : Int32) (r2 ||| a1)) (fun (b3 : Nat → Int32) => b3))))
def rmX0_raiseInterrupts : Room := { frames := 1, cells := 0, slots := 0, locals := 22 }
def wwX0_raiseInterrupts : List Cond := Cond.code yX0_raiseInterrupts cX0_raiseInterrupts 2 none :: wsL_law
theorem hdX0_raiseInterrupts : yX0_raiseInterrupts.cls = RX0 ∧ yX0_raiseInterrupts.cls ≠ "java/lang/invoke/MethodHandle" ∧ yX0_raiseInterrupts.cls ≠ "java/lang/invoke/VarHandle" ∧ (parseMethodDescriptor yX0_raiseInterrupts.desc).map (fun d => d.parameters.length) = some 1 := by decide +kernel
set_option maxHeartbeats 4000000 in
set_option maxRecDepth 100000 in
theorem c_X0_raiseInterrupts (l : Launch) (D : va_G) (cB : ClassId) (me ba sz : Nat) (v_by : Nat → Int32) (v_ct : Int32) (a1 : Int32)  : Met l yX0_raiseInterrupts wwX0_raiseInterrupts rmX0_raiseInterrupts (va_Pc [.ref me, .int a1] (kp D (kX0 cB me ba v_by v_ct) [(cB, .byte)] sz)) (va_Qv (fun (u9 : (Nat → Int32)) => u9 = fX0_raiseInterrupts v_by a1) (fun u9 t => kq D (kX0 cB me ba u9 v_ct) [(cB, .byte)] (va_A (kX0 cB me ba v_by v_ct) sz) t) (va_A (kX0 cB me ba v_by v_ct) sz)) 0 0 (va_A (kX0 cB me ba v_by v_ct) sz) := by
  refine Met.ofW (cc := cX0_raiseInterrupts) (maxL := 2) (ret := none) (by decide) rfl ?_
  intro p e s m args below meth c s₁ B hml hv
  obtain ⟨rfl, hsz, hP, hK, hD0, hT⟩ := hv
  have hx := B.exec
  have hb := B.bytes
  have hr := B.returns
  have hts := atoms_spec (ws := wwX0_raiseInterrupts) B.pre
  have hws : ∀ w ∈ wsL_law, w.before _ s = true := fun w h => hts w (List.mem_cons_of_mem _ h)
  have hown : s.vm.findClass RX0 = some m.cls := findClass_of_methodNamed B.named
  have hlocks := B.notSynchronized
  subst hsz
  have hD := hD0.self (sz := s.heap.size)
  generalize hAe : va_A (kX0 cB me ba v_by v_ct) s.heap.size = A at hD hT ⊢
  have hA : ∀ q : Nat, s.heap.size ≤ q → A q := fun q h => by rw [← hAe]; exact Or.inr h
  have hS : va_S A s.heap s.heap [] := va_S.rf
  have hl := lv_entry ([.ref me, .int a1]) (n := 2) (Nat.le_of_ble_eq_true rfl)
  rw [lg_entry_eq]
  generalize (lg_sl ([.ref me, .int a1]) ++ List.replicate (2 - (lg_sl ([.ref me, .int a1])).length) Slot.unset).toArray = ls at hl ⊢
  have hl : lv_has ls 2 [(0, .ref me), (1, .int a1)] := hl
  generalize hQ : MQ _ _ _ _ _ _ _ = Q
  obtain ⟨H, hHe⟩ : ∃ H : Heap, H = s.heap := ⟨_, rfl⟩
  obtain ⟨locs, hle⟩ : ∃ L : List Loc, L = [] := ⟨_, rfl⟩
  have hP : va_P D vwCl (kX0 cB me ba v_by v_ct) H := by rw [hHe]; exact hP
  have hS : va_S A s.heap H locs := by rw [hHe, hle]; exact hS
  refine kw_start hHe.symm hle.symm ?_
  have hf : fX0_raiseInterrupts v_by a1 = fX0_raiseInterrupts v_by a1 := rfl
  refine lv_aload_n hx hb dX0_raiseInterrupts_0 rfl (lv_at hl 0 rfl) ?_
  refine lv_ldc (v := 65295) hx hb hown (hws _ mw_113) dX0_raiseInterrupts_1 ?_
  refine lv_aload_n hx hb dX0_raiseInterrupts_3 rfl (lv_at hl 0 rfl) ?_
  refine lv_ldc (v := 65295) hx hb hown (hws _ mw_113) dX0_raiseInterrupts_4 ?_
  refine kc_Vi (wr := []) (As := [.int (65295 : Int32)]) (rest := [.int (65295 : Int32), .ref me]) (fun _ => (kX0 cB me ba v_by v_ct)) ⟨hx, hb, hml, hown, hws⟩ hK hP hD hS hA hT (c_X0_at l D cB me ba H.size v_by v_ct (65295 : Int32)) (cwV 1 hws (gw_V mw_114 mw_86 mw_87 mw_14 mw_88) rfl rfl rfl hdX0_at ⟨Nat.le_of_ble_eq_true rfl, Nat.le_of_ble_eq_true rfl⟩) [0, 1] [] [0] [0, 1] rfl rfl rfl rfl (by decide) rfl (fun _ => rfl) rfl 0 rfl rfl rfl rfl hl.1 rfl (Nat.le_of_ble_eq_true rfl) dX0_raiseInterrupts_6 ⟨Nat.zero_le _, Nat.zero_le _⟩ (fun r2 _ H locs hw1 hP hD hS => ?_)
  have hP : va_P D vwCl (kX0 cB me ba v_by v_ct) H := hP
  have hD : va_D A (kX0 cB me ba v_by v_ct) := hD
  have hf := hf.trans (kE1 hw1)
  refine lv_iload_n hx hb dX0_raiseInterrupts_9 rfl (lv_at hl 1 rfl) ?_
  refine lv_ior hx hb dX0_raiseInterrupts_10 ?_
  refine kc_Vv (wr := []) (As := [.int (65295 : Int32), .int (r2 ||| a1)]) (rest := []) (fun u9 => (kX0 cB me ba u9 v_ct)) ⟨hx, hb, hml, hown, hws⟩ hK hP hD hS hA hT (c_X0_store l D cB me ba H.size v_by v_ct (65295 : Int32) (r2 ||| a1)) (cwV 2 hws (gw_V mw_75 mw_52 mw_53 mw_14 mw_54) rfl rfl rfl hdX0_store ⟨Nat.le_of_ble_eq_true rfl, Nat.le_of_ble_eq_true rfl⟩) [0, 1] [] [0] [0, 1] rfl rfl rfl rfl (by decide) rfl (fun _ => rfl) rfl 0 rfl rfl rfl rfl hl.1 rfl (Nat.le_of_ble_eq_true rfl) dX0_raiseInterrupts_11 ⟨Nat.zero_le _, Nat.zero_le _⟩ (fun b3 H locs hw4 hP hD hS => ?_)
  have hP : va_P D vwCl (kX0 cB me ba b3 v_ct) H := hP
  have hD : va_D A (kX0 cB me ba b3 v_ct) := hD
  have hf := hf.trans (kE1 hw4)
  rw [← hQ]
  exact W.vret hx hb hr (fun t ht hW => ⟨⟨b3, rfl, hf.symm, by rw [ht]; exact hP, va_K.moved hW.alike hK, hD⟩, hS.F ht⟩) hS.2.2 dX0_raiseInterrupts_14
def fX0_countTimer (v_by : Nat → Int32)  : (Nat → Int32) := (kU1 (fX0_at v_by (65285 : Int32)) (fun (r2 : Int32) => (kU1 (fX0_store v_by (65285 : Int32) (r2 + (1 : Int32))) (fun (b3 : Nat → Int32) => (kU1 (fX0_at b3 (65285 : Int32)) (fun (r6 : Int32) => (kIf (kEq r6 (0 : Int32)) (kU1 (fX0_at b3 (65286 : Int32)) (fun (r9 : Int32) => (kU1 (fX0_store b3 (65285 : Int32) r9) (fun (b10 : Nat → Int32) => (kU1 (fX0_raiseInterrupts b10 (4 : Int32)) (fun (b12 : Nat → Int32) => b12)))))) b3)))))))
def rmX0_countTimer : Room := { frames := 2, cells := 0, slots := 0, locals := 43 }
def wwX0_countTimer : List Cond := Cond.code yX0_countTimer cX0_countTimer 1 none :: wsL_law
theorem hdX0_countTimer : yX0_countTimer.cls = RX0 ∧ yX0_countTimer.cls ≠ "java/lang/invoke/MethodHandle" ∧ yX0_countTimer.cls ≠ "java/lang/invoke/VarHandle" ∧ (parseMethodDescriptor yX0_countTimer.desc).map (fun d => d.parameters.length) = some 0 := by decide +kernel
set_option maxHeartbeats 4000000 in
set_option maxRecDepth 100000 in
theorem c_X0_countTimer (l : Launch) (D : va_G) (cB : ClassId) (me ba sz : Nat) (v_by : Nat → Int32) (v_ct : Int32)   : Met l yX0_countTimer wwX0_countTimer rmX0_countTimer (va_Pc [.ref me] (kp D (kX0 cB me ba v_by v_ct) [(cB, .byte)] sz)) (va_Qv (fun (u9 : (Nat → Int32)) => u9 = fX0_countTimer v_by) (fun u9 t => kq D (kX0 cB me ba u9 v_ct) [(cB, .byte)] (va_A (kX0 cB me ba v_by v_ct) sz) t) (va_A (kX0 cB me ba v_by v_ct) sz)) 0 0 (va_A (kX0 cB me ba v_by v_ct) sz) := by
  refine Met.ofW (cc := cX0_countTimer) (maxL := 1) (ret := none) (by decide) rfl ?_
  intro p e s m args below meth c s₁ B hml hv
  obtain ⟨rfl, hsz, hP, hK, hD0, hT⟩ := hv
  have hx := B.exec
  have hb := B.bytes
  have hr := B.returns
  have hts := atoms_spec (ws := wwX0_countTimer) B.pre
  have hws : ∀ w ∈ wsL_law, w.before _ s = true := fun w h => hts w (List.mem_cons_of_mem _ h)
  have hown : s.vm.findClass RX0 = some m.cls := findClass_of_methodNamed B.named
  have hlocks := B.notSynchronized
  subst hsz
  have hD := hD0.self (sz := s.heap.size)
  generalize hAe : va_A (kX0 cB me ba v_by v_ct) s.heap.size = A at hD hT ⊢
  have hA : ∀ q : Nat, s.heap.size ≤ q → A q := fun q h => by rw [← hAe]; exact Or.inr h
  have hS : va_S A s.heap s.heap [] := va_S.rf
  have hl := lv_entry ([.ref me]) (n := 1) (Nat.le_of_ble_eq_true rfl)
  rw [lg_entry_eq]
  generalize (lg_sl ([.ref me]) ++ List.replicate (1 - (lg_sl ([.ref me])).length) Slot.unset).toArray = ls at hl ⊢
  have hl : lv_has ls 1 [(0, .ref me)] := hl
  generalize hQ : MQ _ _ _ _ _ _ _ = Q
  obtain ⟨H, hHe⟩ : ∃ H : Heap, H = s.heap := ⟨_, rfl⟩
  obtain ⟨locs, hle⟩ : ∃ L : List Loc, L = [] := ⟨_, rfl⟩
  have hP : va_P D vwCl (kX0 cB me ba v_by v_ct) H := by rw [hHe]; exact hP
  have hS : va_S A s.heap H locs := by rw [hHe, hle]; exact hS
  refine kw_start hHe.symm hle.symm ?_
  have hf : fX0_countTimer v_by = fX0_countTimer v_by := rfl
  refine lv_aload_n hx hb dX0_countTimer_0 rfl (lv_at hl 0 rfl) ?_
  refine lv_ldc (v := 65285) hx hb hown (hws _ mw_158) dX0_countTimer_1 ?_
  refine lv_aload_n hx hb dX0_countTimer_3 rfl (lv_at hl 0 rfl) ?_
  refine lv_ldc (v := 65285) hx hb hown (hws _ mw_158) dX0_countTimer_4 ?_
  refine kc_Vi (wr := []) (As := [.int (65285 : Int32)]) (rest := [.int (65285 : Int32), .ref me]) (fun _ => (kX0 cB me ba v_by v_ct)) ⟨hx, hb, hml, hown, hws⟩ hK hP hD hS hA hT (c_X0_at l D cB me ba H.size v_by v_ct (65285 : Int32)) (cwV 1 hws (gw_V mw_114 mw_86 mw_87 mw_14 mw_88) rfl rfl rfl hdX0_at ⟨Nat.le_of_ble_eq_true rfl, Nat.le_of_ble_eq_true rfl⟩) [0, 1] [] [0] [0, 1] rfl rfl rfl rfl (by decide) rfl (fun _ => rfl) rfl 0 rfl rfl rfl rfl hl.1 rfl (Nat.le_of_ble_eq_true rfl) dX0_countTimer_6 ⟨Nat.zero_le _, Nat.zero_le _⟩ (fun r2 _ H locs hw1 hP hD hS => ?_)
  have hP : va_P D vwCl (kX0 cB me ba v_by v_ct) H := hP
  have hD : va_D A (kX0 cB me ba v_by v_ct) := hD
  have hf := hf.trans (kE1 hw1)
  refine lv_iconst (v := 1) hx hb dX0_countTimer_9 (by decide) ?_
  refine lv_iadd hx hb dX0_countTimer_10 ?_
  refine kc_Vv (wr := []) (As := [.int (65285 : Int32), .int (r2 + (1 : Int32))]) (rest := []) (fun u9 => (kX0 cB me ba u9 v_ct)) ⟨hx, hb, hml, hown, hws⟩ hK hP hD hS hA hT (c_X0_store l D cB me ba H.size v_by v_ct (65285 : Int32) (r2 + (1 : Int32))) (cwV 2 hws (gw_V mw_75 mw_52 mw_53 mw_14 mw_54) rfl rfl rfl hdX0_store ⟨Nat.le_of_ble_eq_true rfl, Nat.le_of_ble_eq_true rfl⟩) [0, 1] [] [0] [0, 1] rfl rfl rfl rfl (by decide) rfl (fun _ => rfl) rfl 0 rfl rfl rfl rfl hl.1 rfl (Nat.le_of_ble_eq_true rfl) dX0_countTimer_11 ⟨Nat.zero_le _, Nat.zero_le _⟩ (fun b3 H locs hw4 hP hD hS => ?_)
  have hP : va_P D vwCl (kX0 cB me ba b3 v_ct) H := hP
  have hD : va_D A (kX0 cB me ba b3 v_ct) := hD
  have hf := hf.trans (kE1 hw4)
  refine lv_aload_n hx hb dX0_countTimer_14 rfl (lv_at hl 0 rfl) ?_
  refine lv_ldc (v := 65285) hx hb hown (hws _ mw_158) dX0_countTimer_15 ?_
  refine kc_Vi (wr := []) (As := [.int (65285 : Int32)]) (rest := []) (fun _ => (kX0 cB me ba b3 v_ct)) ⟨hx, hb, hml, hown, hws⟩ hK hP hD hS hA hT (c_X0_at l D cB me ba H.size b3 v_ct (65285 : Int32)) (cwV 1 hws (gw_V mw_114 mw_86 mw_87 mw_14 mw_88) rfl rfl rfl hdX0_at ⟨Nat.le_of_ble_eq_true rfl, Nat.le_of_ble_eq_true rfl⟩) [0, 1] [] [0] [0, 1] rfl rfl rfl rfl (by decide) rfl (fun _ => rfl) rfl 0 rfl rfl rfl rfl hl.1 rfl (Nat.le_of_ble_eq_true rfl) dX0_countTimer_17 ⟨Nat.zero_le _, Nat.zero_le _⟩ (fun r6 _ H locs hw5 hP hD hS => ?_)
  have hP : va_P D vwCl (kX0 cB me ba b3 v_ct) H := hP
  have hD : va_D A (kX0 cB me ba b3 v_ct) := hD
  have hf := hf.trans (kE1 hw5)
  refine lv_if_ne (tgt := 40) hx hb dX0_countTimer_20 (by decide) (fun c7 => ?_) (fun c7 => ?_)
  · have hf := hf.trans (kf_eq c7)
    rw [← hQ]
    exact W.vret hx hb hr (fun t ht hW => ⟨⟨b3, rfl, hf.symm, by rw [ht]; exact hP, va_K.moved hW.alike hK, hD⟩, hS.F ht⟩) hS.2.2 dX0_countTimer_40
  · have hf := hf.trans (kt_eq c7)
    refine lv_aload_n hx hb dX0_countTimer_23 rfl (lv_at hl 0 rfl) ?_
    refine lv_ldc (v := 65285) hx hb hown (hws _ mw_158) dX0_countTimer_24 ?_
    refine lv_aload_n hx hb dX0_countTimer_26 rfl (lv_at hl 0 rfl) ?_
    refine lv_ldc (v := 65286) hx hb hown (hws _ mw_159) dX0_countTimer_27 ?_
    refine kc_Vi (wr := []) (As := [.int (65286 : Int32)]) (rest := [.int (65285 : Int32), .ref me]) (fun _ => (kX0 cB me ba b3 v_ct)) ⟨hx, hb, hml, hown, hws⟩ hK hP hD hS hA hT (c_X0_at l D cB me ba H.size b3 v_ct (65286 : Int32)) (cwV 1 hws (gw_V mw_114 mw_86 mw_87 mw_14 mw_88) rfl rfl rfl hdX0_at ⟨Nat.le_of_ble_eq_true rfl, Nat.le_of_ble_eq_true rfl⟩) [0, 1] [] [0] [0, 1] rfl rfl rfl rfl (by decide) rfl (fun _ => rfl) rfl 0 rfl rfl rfl rfl hl.1 rfl (Nat.le_of_ble_eq_true rfl) dX0_countTimer_29 ⟨Nat.zero_le _, Nat.zero_le _⟩ (fun r9 _ H locs hw8 hP hD hS => ?_)
    have hP : va_P D vwCl (kX0 cB me ba b3 v_ct) H := hP
    have hD : va_D A (kX0 cB me ba b3 v_ct) := hD
    have hf := hf.trans (kE1 hw8)
    refine kc_Vv (wr := []) (As := [.int (65285 : Int32), .int r9]) (rest := []) (fun u9 => (kX0 cB me ba u9 v_ct)) ⟨hx, hb, hml, hown, hws⟩ hK hP hD hS hA hT (c_X0_store l D cB me ba H.size b3 v_ct (65285 : Int32) r9) (cwV 2 hws (gw_V mw_75 mw_52 mw_53 mw_14 mw_54) rfl rfl rfl hdX0_store ⟨Nat.le_of_ble_eq_true rfl, Nat.le_of_ble_eq_true rfl⟩) [0, 1] [] [0] [0, 1] rfl rfl rfl rfl (by decide) rfl (fun _ => rfl) rfl 0 rfl rfl rfl rfl hl.1 rfl (Nat.le_of_ble_eq_true rfl) dX0_countTimer_32 ⟨Nat.zero_le _, Nat.zero_le _⟩ (fun b10 H locs hw11 hP hD hS => ?_)
    have hP : va_P D vwCl (kX0 cB me ba b10 v_ct) H := hP
    have hD : va_D A (kX0 cB me ba b10 v_ct) := hD
    have hf := hf.trans (kE1 hw11)
    refine lv_aload_n hx hb dX0_countTimer_35 rfl (lv_at hl 0 rfl) ?_
    refine lv_iconst (v := 4) hx hb dX0_countTimer_36 (by decide) ?_
    refine kc_Vv (wr := []) (As := [.int (4 : Int32)]) (rest := []) (fun u9 => (kX0 cB me ba u9 v_ct)) ⟨hx, hb, hml, hown, hws⟩ hK hP hD hS hA hT (c_X0_raiseInterrupts l D cB me ba H.size b10 v_ct (4 : Int32)) (cwV 1 hws (gw_V mw_160 mw_161 mw_162 mw_14 mw_163) rfl rfl rfl hdX0_raiseInterrupts ⟨Nat.le_of_ble_eq_true rfl, Nat.le_of_ble_eq_true rfl⟩) [0, 1] [] [0] [0, 1] rfl rfl rfl rfl (by decide) rfl (fun _ => rfl) rfl 0 rfl rfl rfl rfl hl.1 rfl (Nat.le_of_ble_eq_true rfl) dX0_countTimer_37 ⟨Nat.zero_le _, Nat.zero_le _⟩ (fun b12 H locs hw13 hP hD hS => ?_)
    have hP : va_P D vwCl (kX0 cB me ba b12 v_ct) H := hP
    have hD : va_D A (kX0 cB me ba b12 v_ct) := hD
    have hf := hf.trans (kE1 hw13)
    rw [← hQ]
    exact W.vret hx hb hr (fun t ht hW => ⟨⟨b12, rfl, hf.symm, by rw [ht]; exact hP, va_K.moved hW.alike hK, hD⟩, hS.F ht⟩) hS.2.2 dX0_countTimer_40
def fX0_tick (v_by : Nat → Int32) (v_ct : Int32)  : (Nat → Int32) × Int32 := (kU1 (((v_ct + (1 : Int32)) &&& (255 : Int32))) (fun (x1 : Int32) => (kU1 (((kIf (kEq (x1 &&& (63 : Int32)) (0 : Int32)) (kU1 (fX0_at v_by (65284 : Int32)) (fun (r4 : Int32) => (kU1 (fX0_store v_by (65284 : Int32) (r4 + (1 : Int32))) (fun (b5 : Nat → Int32) => b5)))) v_by) : (Nat → Int32))) (fun (b7 : Nat → Int32) => (kU1 (fX0_at b7 (65287 : Int32)) (fun (r10 : Int32) => (kIf (kEq (r10 &&& (4 : Int32)) (0 : Int32)) (b7, x1) (kIf (kEq (x1 &&& (tb_mask (r10 &&& (3 : Int32)).toNatClampNeg)) (0 : Int32)) (kU1 (fX0_countTimer b7) (fun (b13 : Nat → Int32) => (b13, x1))) (b7, x1)))))))))
def rmX0_tick : Room := { frames := 3, cells := 0, slots := 0, locals := 63 }
def wwX0_tick : List Cond := Cond.code yX0_tick cX0_tick 2 none :: wsL_law
theorem hdX0_tick : yX0_tick.cls = RX0 ∧ yX0_tick.cls ≠ "java/lang/invoke/MethodHandle" ∧ yX0_tick.cls ≠ "java/lang/invoke/VarHandle" ∧ (parseMethodDescriptor yX0_tick.desc).map (fun d => d.parameters.length) = some 0 := by decide +kernel
set_option maxHeartbeats 4000000 in
set_option maxRecDepth 100000 in
theorem c_X0_tick (l : Launch) (D : va_G) (cB : ClassId) (me ba sz : Nat) (v_by : Nat → Int32) (v_ct : Int32)   : Met l yX0_tick wwX0_tick rmX0_tick (va_Pc [.ref me] (kp D (kX0 cB me ba v_by v_ct) [(cB, .byte)] sz)) (va_Qv (fun (u9 : (Nat → Int32) × Int32) => u9 = fX0_tick v_by v_ct) (fun u9 t => kq D (kX0 cB me ba (u9.1) (u9.2)) [(cB, .byte)] (va_A (kX0 cB me ba v_by v_ct) sz) t) (va_A (kX0 cB me ba v_by v_ct) sz)) 0 0 (va_A (kX0 cB me ba v_by v_ct) sz) := by
  refine Met.ofW (cc := cX0_tick) (maxL := 2) (ret := none) (by decide) rfl ?_
  intro p e s m args below meth c s₁ B hml hv
  obtain ⟨rfl, hsz, hP, hK, hD0, hT⟩ := hv
  have hx := B.exec
  have hb := B.bytes
  have hr := B.returns
  have hts := atoms_spec (ws := wwX0_tick) B.pre
  have hws : ∀ w ∈ wsL_law, w.before _ s = true := fun w h => hts w (List.mem_cons_of_mem _ h)
  have hown : s.vm.findClass RX0 = some m.cls := findClass_of_methodNamed B.named
  have hlocks := B.notSynchronized
  subst hsz
  have hD := hD0.self (sz := s.heap.size)
  generalize hAe : va_A (kX0 cB me ba v_by v_ct) s.heap.size = A at hD hT ⊢
  have hA : ∀ q : Nat, s.heap.size ≤ q → A q := fun q h => by rw [← hAe]; exact Or.inr h
  have hS : va_S A s.heap s.heap [] := va_S.rf
  have hl := lv_entry ([.ref me]) (n := 2) (Nat.le_of_ble_eq_true rfl)
  rw [lg_entry_eq]
  generalize (lg_sl ([.ref me]) ++ List.replicate (2 - (lg_sl ([.ref me])).length) Slot.unset).toArray = ls at hl ⊢
  have hl : lv_has ls 2 [(0, .ref me)] := hl
  generalize hQ : MQ _ _ _ _ _ _ _ = Q
  obtain ⟨H, hHe⟩ : ∃ H : Heap, H = s.heap := ⟨_, rfl⟩
  obtain ⟨locs, hle⟩ : ∃ L : List Loc, L = [] := ⟨_, rfl⟩
  have hP : va_P D vwCl (kX0 cB me ba v_by v_ct) H := by rw [hHe]; exact hP
  have hS : va_S A s.heap H locs := by rw [hHe, hle]; exact hS
  refine kw_start hHe.symm hle.symm ?_
  have hf : fX0_tick v_by v_ct = fX0_tick v_by v_ct := rfl
  refine lv_aload_n hx hb dX0_tick_0 rfl (lv_at hl 0 rfl) ?_
  refine lv_aload_n hx hb dX0_tick_1 rfl (lv_at hl 0 rfl) ?_
  refine va_get (D := D) (ci := 0) (v := .int v_ct) (C := RX0) (T := TX0) (N := 2) hx hb hws inlX0 hown hK hP 0 rfl rfl 1 (by decide) (hws _ mw_136) (fun _ h9 => h9) rfl dX0_tick_2 ?_
  refine lv_iconst (v := 1) hx hb dX0_tick_5 (by decide) ?_
  refine lv_iadd hx hb dX0_tick_6 ?_
  refine lv_sipush (v := 255) hx hb dX0_tick_7 (by decide) ?_
  refine lv_iand hx hb dX0_tick_10 ?_
  refine lv_topi (fun x1 ex1 => ?_)
  have hf := hf.trans (kE1 ex1)
  refine va_put (D := D) (ci := 0) (v := .int x1) (ty := .int) (C := RX0) (T := TX0) (N := 2) hx hb hws inlX0 tyX0 tyX0_ok nmX0 hown hK hP hD hS 0 rfl rfl 1 (by decide) (hws _ mw_136) (fun _ h9 => h9) rfl (tyX0_ok 1 (by decide)) rfl rfl (Nat.le_of_ble_eq_true rfl) dX0_tick_11 (fun H locs hP hD hS => ?_)
  have hP : va_P D vwCl (kX0 cB me ba v_by x1) H := hP
  have hD : va_D A (kX0 cB me ba v_by x1) := hD
  refine lv_aload_n hx hb dX0_tick_14 rfl (lv_at hl 0 rfl) ?_
  refine va_get (D := D) (ci := 0) (v := .int x1) (C := RX0) (T := TX0) (N := 2) hx hb hws inlX0 hown hK hP 0 rfl rfl 1 (by decide) (hws _ mw_136) (fun _ h9 => h9) rfl dX0_tick_15 ?_
  refine lv_bipush (v := 63) hx hb dX0_tick_18 (by decide) ?_
  refine lv_iand hx hb dX0_tick_20 ?_
  obtain ⟨TJ8, hTJ8⟩ : ∃ T9 : (Nat → Int32), T9 = (kIf (kEq (x1 &&& (63 : Int32)) (0 : Int32)) (kU1 (fX0_at v_by (65284 : Int32)) (fun (r4 : Int32) => (kU1 (fX0_store v_by (65284 : Int32) (r4 + (1 : Int32))) (fun (b5 : Nat → Int32) => b5)))) v_by) := ⟨_, rfl⟩
  have J8 : ∀ (b7 : Nat → Int32), b7 = TJ8 → ∀ (H : Heap) (locs : List Loc) (ls : Array Slot), lv_has ls 2 [(0, .ref me)] → va_P D vwCl (kX0 cB me ba b7 x1) H → va_D A (kX0 cB me ba b7 x1) → va_S A s.heap H locs → W p l e (headSpec wwX0_tick rmX0_tick).room s m ([.ref me] : List Value).toArray below meth c H locs 0 0 Q (F0 m 38 ls []) := by
    intro b7 eJ8 H locs ls hl hP hD hS
    have hf := hf.trans (kE1 (eJ8.trans hTJ8))
    refine lv_aload_n hx hb dX0_tick_38 rfl (lv_at hl 0 rfl) ?_
    refine lv_ldc (v := 65287) hx hb hown (hws _ mw_153) dX0_tick_39 ?_
    refine kc_Vi (wr := []) (As := [.int (65287 : Int32)]) (rest := []) (fun _ => (kX0 cB me ba b7 x1)) ⟨hx, hb, hml, hown, hws⟩ hK hP hD hS hA hT (c_X0_at l D cB me ba H.size b7 x1 (65287 : Int32)) (cwV 1 hws (gw_V mw_114 mw_86 mw_87 mw_14 mw_88) rfl rfl rfl hdX0_at ⟨Nat.le_of_ble_eq_true rfl, Nat.le_of_ble_eq_true rfl⟩) [0, 1] [] [0] [0, 1] rfl rfl rfl rfl (by decide) rfl (fun _ => rfl) rfl 0 rfl rfl rfl rfl hl.1 rfl (Nat.le_of_ble_eq_true rfl) dX0_tick_41 ⟨Nat.zero_le _, Nat.zero_le _⟩ (fun r10 _ H locs hw9 hP hD hS => ?_)
    have hP : va_P D vwCl (kX0 cB me ba b7 x1) H := hP
    have hD : va_D A (kX0 cB me ba b7 x1) := hD
    have hf := hf.trans (kE1 hw9)
    refine lv_istore_n (lv' := [(1, .int r10), (0, .ref me)]) hx hb dX0_tick_44 rfl hl (by decide) rfl (fun ls hl => ?_)
    refine lv_iload_n hx hb dX0_tick_45 rfl (lv_at hl 0 rfl) ?_
    refine lv_iconst (v := 4) hx hb dX0_tick_46 (by decide) ?_
    refine lv_iand hx hb dX0_tick_47 ?_
    refine lv_if_eq (tgt := 70) hx hb dX0_tick_48 (by decide) (fun c11 => ?_) (fun c11 => ?_)
    · have hf := hf.trans (kt_eq c11)
      rw [← hQ]
      exact W.vret hx hb hr (fun t ht hW => ⟨⟨(b7, x1), rfl, hf.symm, by rw [ht]; exact hP, va_K.moved hW.alike hK, hD⟩, hS.F ht⟩) hS.2.2 dX0_tick_70
    · have hf := hf.trans (kf_eq c11)
      refine lv_aload_n hx hb dX0_tick_51 rfl (lv_at hl 1 rfl) ?_
      refine va_get (D := D) (ci := 0) (v := .int x1) (C := RX0) (T := TX0) (N := 2) hx hb hws inlX0 hown hK hP 0 rfl rfl 1 (by decide) (hws _ mw_136) (fun _ h9 => h9) rfl dX0_tick_52 ?_
      obtain ⟨tm, hzm, hym⟩ := hT.2.1
      refine va_getsN (v := .ref tm) hx hb hzm hS hown (va_Nw.use (w := kx_n6) rfl hT.1.2.2.2.2.2) (fun _ h9 => h9) dX0_tick_55 ?_
      refine lv_iload_n hx hb dX0_tick_58 rfl (lv_at hl 0 rfl) ?_
      refine lv_iconst (v := 3) hx hb dX0_tick_59 (by decide) ?_
      refine lv_iand hx hb dX0_tick_60 ?_
      refine va_ti (v := .int (tb_mask (r10 &&& (3 : Int32)).toNatClampNeg)) hx hb hym hS (ki_3_4 _) rfl dX0_tick_61 ?_
      refine lv_iand hx hb dX0_tick_62 ?_
      refine lv_if_ne (tgt := 70) hx hb dX0_tick_63 (by decide) (fun c12 => ?_) (fun c12 => ?_)
      · have hf := hf.trans (kf_eq c12)
        rw [← hQ]
        exact W.vret hx hb hr (fun t ht hW => ⟨⟨(b7, x1), rfl, hf.symm, by rw [ht]; exact hP, va_K.moved hW.alike hK, hD⟩, hS.F ht⟩) hS.2.2 dX0_tick_70
      · have hf := hf.trans (kt_eq c12)
        refine lv_aload_n hx hb dX0_tick_66 rfl (lv_at hl 1 rfl) ?_
        refine kc_Vv (wr := []) (As := []) (rest := []) (fun u9 => (kX0 cB me ba u9 x1)) ⟨hx, hb, hml, hown, hws⟩ hK hP hD hS hA hT (c_X0_countTimer l D cB me ba H.size b7 x1 ) (cwV 0 hws (gw_V mw_154 mw_155 mw_156 mw_14 mw_157) rfl rfl rfl hdX0_countTimer ⟨Nat.le_of_ble_eq_true rfl, Nat.le_of_ble_eq_true rfl⟩) [0, 1] [] [0] [0, 1] rfl rfl rfl rfl (by decide) rfl (fun _ => rfl) rfl 0 rfl rfl rfl rfl hl.1 rfl (Nat.le_of_ble_eq_true rfl) dX0_tick_67 ⟨Nat.zero_le _, Nat.zero_le _⟩ (fun b13 H locs hw14 hP hD hS => ?_)
        have hP : va_P D vwCl (kX0 cB me ba b13 x1) H := hP
        have hD : va_D A (kX0 cB me ba b13 x1) := hD
        have hf := hf.trans (kE1 hw14)
        rw [← hQ]
        exact W.vret hx hb hr (fun t ht hW => ⟨⟨(b13, x1), rfl, hf.symm, by rw [ht]; exact hP, va_K.moved hW.alike hK, hD⟩, hS.F ht⟩) hS.2.2 dX0_tick_70
  have hf := hTJ8
  refine lv_if_ne (tgt := 38) hx hb dX0_tick_21 (by decide) (fun c2 => ?_) (fun c2 => ?_)
  · have hf := hf.trans (kf_eq c2)
    exact J8 v_by hf.symm H locs ls (lv_sub hl [0] rfl) hP hD hS
  · have hf := hf.trans (kt_eq c2)
    refine lv_aload_n hx hb dX0_tick_24 rfl (lv_at hl 0 rfl) ?_
    refine lv_ldc (v := 65284) hx hb hown (hws _ mw_135) dX0_tick_25 ?_
    refine lv_aload_n hx hb dX0_tick_27 rfl (lv_at hl 0 rfl) ?_
    refine lv_ldc (v := 65284) hx hb hown (hws _ mw_135) dX0_tick_28 ?_
    refine kc_Vi (wr := []) (As := [.int (65284 : Int32)]) (rest := [.int (65284 : Int32), .ref me]) (fun _ => (kX0 cB me ba v_by x1)) ⟨hx, hb, hml, hown, hws⟩ hK hP hD hS hA hT (c_X0_at l D cB me ba H.size v_by x1 (65284 : Int32)) (cwV 1 hws (gw_V mw_114 mw_86 mw_87 mw_14 mw_88) rfl rfl rfl hdX0_at ⟨Nat.le_of_ble_eq_true rfl, Nat.le_of_ble_eq_true rfl⟩) [0, 1] [] [0] [0, 1] rfl rfl rfl rfl (by decide) rfl (fun _ => rfl) rfl 0 rfl rfl rfl rfl hl.1 rfl (Nat.le_of_ble_eq_true rfl) dX0_tick_30 ⟨Nat.zero_le _, Nat.zero_le _⟩ (fun r4 _ H locs hw3 hP hD hS => ?_)
    have hP : va_P D vwCl (kX0 cB me ba v_by x1) H := hP
    have hD : va_D A (kX0 cB me ba v_by x1) := hD
    have hf := hf.trans (kE1 hw3)
    refine lv_iconst (v := 1) hx hb dX0_tick_33 (by decide) ?_
    refine lv_iadd hx hb dX0_tick_34 ?_
    refine kc_Vv (wr := []) (As := [.int (65284 : Int32), .int (r4 + (1 : Int32))]) (rest := []) (fun u9 => (kX0 cB me ba u9 x1)) ⟨hx, hb, hml, hown, hws⟩ hK hP hD hS hA hT (c_X0_store l D cB me ba H.size v_by x1 (65284 : Int32) (r4 + (1 : Int32))) (cwV 2 hws (gw_V mw_75 mw_52 mw_53 mw_14 mw_54) rfl rfl rfl hdX0_store ⟨Nat.le_of_ble_eq_true rfl, Nat.le_of_ble_eq_true rfl⟩) [0, 1] [] [0] [0, 1] rfl rfl rfl rfl (by decide) rfl (fun _ => rfl) rfl 0 rfl rfl rfl rfl hl.1 rfl (Nat.le_of_ble_eq_true rfl) dX0_tick_35 ⟨Nat.zero_le _, Nat.zero_le _⟩ (fun b5 H locs hw6 hP hD hS => ?_)
    have hP : va_P D vwCl (kX0 cB me ba b5 x1) H := hP
    have hD : va_D A (kX0 cB me ba b5 x1) := hD
    have hf := hf.trans (kE1 hw6)
    exact J8 b5 hf.symm H locs ls (lv_sub hl [0] rfl) hP hD hS
