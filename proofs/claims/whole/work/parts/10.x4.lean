def fX4_at (w_mm : Nat → Int32) (a1 : Int32) : Int32 := ((w_mm (a1 &&& (65535 : Int32)).toNatClampNeg) &&& (255 : Int32))
def rmX4_at : Room := { frames := 0, cells := 0, slots := 0, locals := 0 }
def wwX4_at : List Cond := Cond.code yX4_at cX4_at 2 (some .int) :: wsL_law
theorem hdX4_at : yX4_at.cls = RX4 ∧ yX4_at.cls ≠ "java/lang/invoke/MethodHandle" ∧ yX4_at.cls ≠ "java/lang/invoke/VarHandle" ∧ (parseMethodDescriptor yX4_at.desc).map (fun d => d.parameters.length) = some 1 := by decide +kernel
set_option maxHeartbeats 4000000 in
set_option maxRecDepth 100000 in
theorem c_X4_at (l : Launch) (D : va_G) (cB : ClassId) (cI : ClassId) (mo mb ma sz : Nat) (w_zf : Bool) (w_nf : Bool) (w_hf : Bool) (w_cf : Bool) (w_sp : Int32) (w_pc : Int32) (w_on : Bool) (w_wt : Bool) (w_ht : Bool) (w_bg : Bool) (w_cn : Int32) (w_al : Int32) (w_cl : Int32) (w_ie : Bool) (w_ww : Bool) (w_th : Int32) (w_mm : Nat → Int32) (w_bs : Nat → Int32) (a1 : Int32)  : Met l yX4_at wwX4_at rmX4_at (va_Pc [.ref mo, .int a1] (kp D (kX4 cB cI mo mb ma w_zf w_nf w_hf w_cf w_sp w_pc w_on w_wt w_ht w_bg w_cn w_al w_cl w_ie w_ww w_th w_mm w_bs) [(cB, .byte), (cI, .int)] sz)) (va_Qi (fun (r : Int32) (_ : Unit) => r = fX4_at w_mm a1) (fun _ t => kq D (kX4 cB cI mo mb ma w_zf w_nf w_hf w_cf w_sp w_pc w_on w_wt w_ht w_bg w_cn w_al w_cl w_ie w_ww w_th w_mm w_bs) [(cB, .byte), (cI, .int)] (va_A (kX4 cB cI mo mb ma w_zf w_nf w_hf w_cf w_sp w_pc w_on w_wt w_ht w_bg w_cn w_al w_cl w_ie w_ww w_th w_mm w_bs) sz) t) (va_A (kX4 cB cI mo mb ma w_zf w_nf w_hf w_cf w_sp w_pc w_on w_wt w_ht w_bg w_cn w_al w_cl w_ie w_ww w_th w_mm w_bs) sz)) 0 0 (va_A (kX4 cB cI mo mb ma w_zf w_nf w_hf w_cf w_sp w_pc w_on w_wt w_ht w_bg w_cn w_al w_cl w_ie w_ww w_th w_mm w_bs) sz) := by
  refine Met.ofW (cc := cX4_at) (maxL := 2) (ret := (some .int)) (by decide) rfl ?_
  intro p e s m args below meth c s₁ B hml hv
  obtain ⟨rfl, hsz, hP, hK, hD0, hT⟩ := hv
  have hx := B.exec
  have hb := B.bytes
  have hr := B.returns
  have hts := atoms_spec (ws := wwX4_at) B.pre
  have hws : ∀ w ∈ wsL_law, w.before _ s = true := fun w h => hts w (List.mem_cons_of_mem _ h)
  have hown : s.vm.findClass RX4 = some m.cls := findClass_of_methodNamed B.named
  have hlocks := B.notSynchronized
  subst hsz
  have hD := hD0.self (sz := s.heap.size)
  generalize hAe : va_A (kX4 cB cI mo mb ma w_zf w_nf w_hf w_cf w_sp w_pc w_on w_wt w_ht w_bg w_cn w_al w_cl w_ie w_ww w_th w_mm w_bs) s.heap.size = A at hD hT ⊢
  have hA : ∀ q : Nat, s.heap.size ≤ q → A q := fun q h => by rw [← hAe]; exact Or.inr h
  have hS : va_S A s.heap s.heap [] := va_S.rf
  have hl := lv_entry ([.ref mo, .int a1]) (n := 2) (Nat.le_of_ble_eq_true rfl)
  rw [lg_entry_eq]
  generalize (lg_sl ([.ref mo, .int a1]) ++ List.replicate (2 - (lg_sl ([.ref mo, .int a1])).length) Slot.unset).toArray = ls at hl ⊢
  have hl : lv_has ls 2 [(0, .ref mo), (1, .int a1)] := hl
  generalize hQ : MQ _ _ _ _ _ _ _ = Q
  obtain ⟨H, hHe⟩ : ∃ H : Heap, H = s.heap := ⟨_, rfl⟩
  obtain ⟨locs, hle⟩ : ∃ L : List Loc, L = [] := ⟨_, rfl⟩
  have hP : va_P D vwCl (kX4 cB cI mo mb ma w_zf w_nf w_hf w_cf w_sp w_pc w_on w_wt w_ht w_bg w_cn w_al w_cl w_ie w_ww w_th w_mm w_bs) H := by rw [hHe]; exact hP
  have hS : va_S A s.heap H locs := by rw [hHe, hle]; exact hS
  refine kw_start hHe.symm hle.symm ?_
  have hf : fX4_at w_mm a1 = fX4_at w_mm a1 := rfl
  refine lv_aload_n hx hb dX4_at_0 rfl (lv_at hl 0 rfl) ?_
  refine va_get (D := D) (ci := 4) (v := .ref mb) (C := RX4) (T := TX4) (N := 18) hx hb hws inlX4 hown hK hP 0 rfl rfl 0 (by decide) (hws _ mw_44) (fun _ h9 => h9) rfl dX4_at_1 ?_
  refine lv_iload_n hx hb dX4_at_4 rfl (lv_at hl 1 rfl) ?_
  refine lv_ldc (v := 65535) hx hb hown (hws _ mw_61) dX4_at_5 ?_
  refine lv_iand hx hb dX4_at_7 ?_
  refine va_bald hx hb hK hP 1 0 rfl rfl (ki_ffff _) dX4_at_8 ?_
  refine lv_sipush (v := 255) hx hb dX4_at_9 (by decide) ?_
  refine lv_iand hx hb dX4_at_12 ?_
  rw [← hQ]
  exact W.iret (v := ((w_mm (a1 &&& (65535 : Int32)).toNatClampNeg) &&& (255 : Int32))) hx hb hr (fun t ht hW => ⟨⟨((w_mm (a1 &&& (65535 : Int32)).toNatClampNeg) &&& (255 : Int32)), (), rfl, hf.symm, by rw [ht]; exact hP, va_K.moved hW.alike hK, hD⟩, hS.F ht⟩) hS.2.2 dX4_at_13
def fX4_puts (w_mm : Nat → Int32) (a1 : Int32) (a2 : Int32) : (Nat → Int32) := (kU1 (upd w_mm (a1 &&& (65535 : Int32)).toNatClampNeg (vp_nar .byte a2.toInt8.toInt32)) (fun (f1 : Nat → Int32) => f1))
def rmX4_puts : Room := { frames := 0, cells := 0, slots := 0, locals := 0 }
def wwX4_puts : List Cond := Cond.code yX4_puts cX4_puts 3 none :: wsL_law
theorem hdX4_puts : yX4_puts.cls = RX4 ∧ yX4_puts.cls ≠ "java/lang/invoke/MethodHandle" ∧ yX4_puts.cls ≠ "java/lang/invoke/VarHandle" ∧ (parseMethodDescriptor yX4_puts.desc).map (fun d => d.parameters.length) = some 2 := by decide +kernel
set_option maxHeartbeats 4000000 in
set_option maxRecDepth 100000 in
theorem c_X4_puts (l : Launch) (D : va_G) (cB : ClassId) (cI : ClassId) (mo mb ma sz : Nat) (w_zf : Bool) (w_nf : Bool) (w_hf : Bool) (w_cf : Bool) (w_sp : Int32) (w_pc : Int32) (w_on : Bool) (w_wt : Bool) (w_ht : Bool) (w_bg : Bool) (w_cn : Int32) (w_al : Int32) (w_cl : Int32) (w_ie : Bool) (w_ww : Bool) (w_th : Int32) (w_mm : Nat → Int32) (w_bs : Nat → Int32) (a1 : Int32) (a2 : Int32)  : Met l yX4_puts wwX4_puts rmX4_puts (va_Pc [.ref mo, .int a1, .int a2] (kp D (kX4 cB cI mo mb ma w_zf w_nf w_hf w_cf w_sp w_pc w_on w_wt w_ht w_bg w_cn w_al w_cl w_ie w_ww w_th w_mm w_bs) [(cB, .byte), (cI, .int)] sz)) (va_Qv (fun (u9 : (Nat → Int32)) => u9 = fX4_puts w_mm a1 a2) (fun u9 t => kq D (kX4 cB cI mo mb ma w_zf w_nf w_hf w_cf w_sp w_pc w_on w_wt w_ht w_bg w_cn w_al w_cl w_ie w_ww w_th u9 w_bs) [(cB, .byte), (cI, .int)] (va_A (kX4 cB cI mo mb ma w_zf w_nf w_hf w_cf w_sp w_pc w_on w_wt w_ht w_bg w_cn w_al w_cl w_ie w_ww w_th w_mm w_bs) sz) t) (va_A (kX4 cB cI mo mb ma w_zf w_nf w_hf w_cf w_sp w_pc w_on w_wt w_ht w_bg w_cn w_al w_cl w_ie w_ww w_th w_mm w_bs) sz)) 0 0 (va_A (kX4 cB cI mo mb ma w_zf w_nf w_hf w_cf w_sp w_pc w_on w_wt w_ht w_bg w_cn w_al w_cl w_ie w_ww w_th w_mm w_bs) sz) := by
  refine Met.ofW (cc := cX4_puts) (maxL := 3) (ret := none) (by decide) rfl ?_
  intro p e s m args below meth c s₁ B hml hv
  obtain ⟨rfl, hsz, hP, hK, hD0, hT⟩ := hv
  have hx := B.exec
  have hb := B.bytes
  have hr := B.returns
  have hts := atoms_spec (ws := wwX4_puts) B.pre
  have hws : ∀ w ∈ wsL_law, w.before _ s = true := fun w h => hts w (List.mem_cons_of_mem _ h)
  have hown : s.vm.findClass RX4 = some m.cls := findClass_of_methodNamed B.named
  have hlocks := B.notSynchronized
  subst hsz
  have hD := hD0.self (sz := s.heap.size)
  generalize hAe : va_A (kX4 cB cI mo mb ma w_zf w_nf w_hf w_cf w_sp w_pc w_on w_wt w_ht w_bg w_cn w_al w_cl w_ie w_ww w_th w_mm w_bs) s.heap.size = A at hD hT ⊢
  have hA : ∀ q : Nat, s.heap.size ≤ q → A q := fun q h => by rw [← hAe]; exact Or.inr h
  have hS : va_S A s.heap s.heap [] := va_S.rf
  have hl := lv_entry ([.ref mo, .int a1, .int a2]) (n := 3) (Nat.le_of_ble_eq_true rfl)
  rw [lg_entry_eq]
  generalize (lg_sl ([.ref mo, .int a1, .int a2]) ++ List.replicate (3 - (lg_sl ([.ref mo, .int a1, .int a2])).length) Slot.unset).toArray = ls at hl ⊢
  have hl : lv_has ls 3 [(0, .ref mo), (1, .int a1), (2, .int a2)] := hl
  generalize hQ : MQ _ _ _ _ _ _ _ = Q
  obtain ⟨H, hHe⟩ : ∃ H : Heap, H = s.heap := ⟨_, rfl⟩
  obtain ⟨locs, hle⟩ : ∃ L : List Loc, L = [] := ⟨_, rfl⟩
  have hP : va_P D vwCl (kX4 cB cI mo mb ma w_zf w_nf w_hf w_cf w_sp w_pc w_on w_wt w_ht w_bg w_cn w_al w_cl w_ie w_ww w_th w_mm w_bs) H := by rw [hHe]; exact hP
  have hS : va_S A s.heap H locs := by rw [hHe, hle]; exact hS
  refine kw_start hHe.symm hle.symm ?_
  have hf : fX4_puts w_mm a1 a2 = fX4_puts w_mm a1 a2 := rfl
  refine lv_aload_n hx hb dX4_puts_0 rfl (lv_at hl 0 rfl) ?_
  refine va_get (D := D) (ci := 4) (v := .ref mb) (C := RX4) (T := TX4) (N := 18) hx hb hws inlX4 hown hK hP 0 rfl rfl 0 (by decide) (hws _ mw_44) (fun _ h9 => h9) rfl dX4_puts_1 ?_
  refine lv_iload_n hx hb dX4_puts_4 rfl (lv_at hl 1 rfl) ?_
  refine lv_ldc (v := 65535) hx hb hown (hws _ mw_61) dX4_puts_5 ?_
  refine lv_iand hx hb dX4_puts_7 ?_
  refine lv_iload_n hx hb dX4_puts_8 rfl (lv_at hl 2 rfl) ?_
  refine lv_i2b (v := a2.toInt8.toInt32) hx hb dX4_puts_9 rfl ?_
  refine va_bast hx hb hK hP hD hS 1 0 rfl rfl (ki_ffff _) dX4_puts_10 (fun H locs hP hD hS => ?_)
  obtain ⟨f1, ef1⟩ : ∃ f9 : Nat → Int32, f9 = upd w_mm (a1 &&& (65535 : Int32)).toNatClampNeg (vp_nar .byte a2.toInt8.toInt32) := ⟨_, rfl⟩
  have hf := hf.trans (kE1 ef1)
  have hP : va_P D vwCl (kX4 cB cI mo mb ma w_zf w_nf w_hf w_cf w_sp w_pc w_on w_wt w_ht w_bg w_cn w_al w_cl w_ie w_ww w_th f1 w_bs) H := by rw [ef1]; exact hP
  have hD : va_D A (kX4 cB cI mo mb ma w_zf w_nf w_hf w_cf w_sp w_pc w_on w_wt w_ht w_bg w_cn w_al w_cl w_ie w_ww w_th f1 w_bs) := by rw [ef1]; exact hD
  rw [← hQ]
  exact W.vret hx hb hr (fun t ht hW => ⟨⟨f1, rfl, hf.symm, by rw [ht]; exact hP, va_K.moved hW.alike hK, hD⟩, hS.F ht⟩) hS.2.2 dX4_puts_11
def fX4_reads (w_cl : Int32) (w_mm : Nat → Int32) (a1 : Int32) : Int32 × Int32 := (kU1 ((w_cl + (1 : Int32))) (fun (x1 : Int32) => (kU1 (fX4_at w_mm a1) (fun (r3 : Int32) => (r3, x1)))))
def rmX4_reads : Room := { frames := 1, cells := 0, slots := 0, locals := 21 }
def wwX4_reads : List Cond := Cond.code yX4_reads cX4_reads 2 (some .int) :: wsL_law
theorem hdX4_reads : yX4_reads.cls = RX4 ∧ yX4_reads.cls ≠ "java/lang/invoke/MethodHandle" ∧ yX4_reads.cls ≠ "java/lang/invoke/VarHandle" ∧ (parseMethodDescriptor yX4_reads.desc).map (fun d => d.parameters.length) = some 1 := by decide +kernel
set_option maxHeartbeats 4000000 in
set_option maxRecDepth 100000 in
theorem c_X4_reads (l : Launch) (D : va_G) (cB : ClassId) (cI : ClassId) (mo mb ma sz : Nat) (w_zf : Bool) (w_nf : Bool) (w_hf : Bool) (w_cf : Bool) (w_sp : Int32) (w_pc : Int32) (w_on : Bool) (w_wt : Bool) (w_ht : Bool) (w_bg : Bool) (w_cn : Int32) (w_al : Int32) (w_cl : Int32) (w_ie : Bool) (w_ww : Bool) (w_th : Int32) (w_mm : Nat → Int32) (w_bs : Nat → Int32) (a1 : Int32)  : Met l yX4_reads wwX4_reads rmX4_reads (va_Pc [.ref mo, .int a1] (kp D (kX4 cB cI mo mb ma w_zf w_nf w_hf w_cf w_sp w_pc w_on w_wt w_ht w_bg w_cn w_al w_cl w_ie w_ww w_th w_mm w_bs) [(cB, .byte), (cI, .int)] sz)) (va_Qi (fun (r : Int32) (u9 : Int32) => (r, u9) = fX4_reads w_cl w_mm a1) (fun u9 t => kq D (kX4 cB cI mo mb ma w_zf w_nf w_hf w_cf w_sp w_pc w_on w_wt w_ht w_bg w_cn w_al u9 w_ie w_ww w_th w_mm w_bs) [(cB, .byte), (cI, .int)] (va_A (kX4 cB cI mo mb ma w_zf w_nf w_hf w_cf w_sp w_pc w_on w_wt w_ht w_bg w_cn w_al w_cl w_ie w_ww w_th w_mm w_bs) sz) t) (va_A (kX4 cB cI mo mb ma w_zf w_nf w_hf w_cf w_sp w_pc w_on w_wt w_ht w_bg w_cn w_al w_cl w_ie w_ww w_th w_mm w_bs) sz)) 0 0 (va_A (kX4 cB cI mo mb ma w_zf w_nf w_hf w_cf w_sp w_pc w_on w_wt w_ht w_bg w_cn w_al w_cl w_ie w_ww w_th w_mm w_bs) sz) := by
  refine Met.ofW (cc := cX4_reads) (maxL := 2) (ret := (some .int)) (by decide) rfl ?_
  intro p e s m args below meth c s₁ B hml hv
  obtain ⟨rfl, hsz, hP, hK, hD0, hT⟩ := hv
  have hx := B.exec
  have hb := B.bytes
  have hr := B.returns
  have hts := atoms_spec (ws := wwX4_reads) B.pre
  have hws : ∀ w ∈ wsL_law, w.before _ s = true := fun w h => hts w (List.mem_cons_of_mem _ h)
  have hown : s.vm.findClass RX4 = some m.cls := findClass_of_methodNamed B.named
  have hlocks := B.notSynchronized
  subst hsz
  have hD := hD0.self (sz := s.heap.size)
  generalize hAe : va_A (kX4 cB cI mo mb ma w_zf w_nf w_hf w_cf w_sp w_pc w_on w_wt w_ht w_bg w_cn w_al w_cl w_ie w_ww w_th w_mm w_bs) s.heap.size = A at hD hT ⊢
  have hA : ∀ q : Nat, s.heap.size ≤ q → A q := fun q h => by rw [← hAe]; exact Or.inr h
  have hS : va_S A s.heap s.heap [] := va_S.rf
  have hl := lv_entry ([.ref mo, .int a1]) (n := 2) (Nat.le_of_ble_eq_true rfl)
  rw [lg_entry_eq]
  generalize (lg_sl ([.ref mo, .int a1]) ++ List.replicate (2 - (lg_sl ([.ref mo, .int a1])).length) Slot.unset).toArray = ls at hl ⊢
  have hl : lv_has ls 2 [(0, .ref mo), (1, .int a1)] := hl
  generalize hQ : MQ _ _ _ _ _ _ _ = Q
  obtain ⟨H, hHe⟩ : ∃ H : Heap, H = s.heap := ⟨_, rfl⟩
  obtain ⟨locs, hle⟩ : ∃ L : List Loc, L = [] := ⟨_, rfl⟩
  have hP : va_P D vwCl (kX4 cB cI mo mb ma w_zf w_nf w_hf w_cf w_sp w_pc w_on w_wt w_ht w_bg w_cn w_al w_cl w_ie w_ww w_th w_mm w_bs) H := by rw [hHe]; exact hP
  have hS : va_S A s.heap H locs := by rw [hHe, hle]; exact hS
  refine kw_start hHe.symm hle.symm ?_
  have hf : fX4_reads w_cl w_mm a1 = fX4_reads w_cl w_mm a1 := rfl
  refine lv_aload_n hx hb dX4_reads_0 rfl (lv_at hl 0 rfl) ?_
  refine lv_dup hx hb dX4_reads_1 rfl ?_
  refine va_get (D := D) (ci := 4) (v := .int w_cl) (C := RX4) (T := TX4) (N := 18) hx hb hws inlX4 hown hK hP 0 rfl rfl 14 (by decide) (hws _ mw_367) (fun _ h9 => h9) rfl dX4_reads_2 ?_
  refine lv_iconst (v := 1) hx hb dX4_reads_5 (by decide) ?_
  refine lv_iadd hx hb dX4_reads_6 ?_
  refine lv_topi (fun x1 ex1 => ?_)
  have hf := hf.trans (kE1 ex1)
  refine va_put (D := D) (ci := 4) (v := .int x1) (ty := .int) (C := RX4) (T := TX4) (N := 18) hx hb hws inlX4 tyX4 tyX4_ok nmX4 hown hK hP hD hS 0 rfl rfl 14 (by decide) (hws _ mw_367) (fun _ h9 => h9) rfl (tyX4_ok 14 (by decide)) rfl rfl (Nat.le_of_ble_eq_true rfl) dX4_reads_7 (fun H locs hP hD hS => ?_)
  have hP : va_P D vwCl (kX4 cB cI mo mb ma w_zf w_nf w_hf w_cf w_sp w_pc w_on w_wt w_ht w_bg w_cn w_al x1 w_ie w_ww w_th w_mm w_bs) H := hP
  have hD : va_D A (kX4 cB cI mo mb ma w_zf w_nf w_hf w_cf w_sp w_pc w_on w_wt w_ht w_bg w_cn w_al x1 w_ie w_ww w_th w_mm w_bs) := hD
  refine lv_aload_n hx hb dX4_reads_10 rfl (lv_at hl 0 rfl) ?_
  refine lv_iload_n hx hb dX4_reads_11 rfl (lv_at hl 1 rfl) ?_
  refine kc_Vi (wr := []) (As := [.int a1]) (rest := []) (fun _ => (kX4 cB cI mo mb ma w_zf w_nf w_hf w_cf w_sp w_pc w_on w_wt w_ht w_bg w_cn w_al x1 w_ie w_ww w_th w_mm w_bs)) ⟨hx, hb, hml, hown, hws⟩ hK hP hD hS hA hT (c_X4_at l D cB cI mo mb ma H.size w_zf w_nf w_hf w_cf w_sp w_pc w_on w_wt w_ht w_bg w_cn w_al x1 w_ie w_ww w_th w_mm w_bs a1) (cwV 1 hws (gw_V mw_93 mw_94 mw_95 mw_5 mw_96) rfl rfl rfl hdX4_at ⟨Nat.le_of_ble_eq_true rfl, Nat.le_of_ble_eq_true rfl⟩) [0, 1, 2] [] [0, 1] [0, 1, 2] rfl rfl rfl rfl (by decide) rfl (fun _ => rfl) rfl 0 rfl rfl rfl rfl hl.1 rfl (Nat.le_of_ble_eq_true rfl) dX4_reads_12 ⟨Nat.zero_le _, Nat.zero_le _⟩ (fun r3 _ H locs hw2 hP hD hS => ?_)
  have hP : va_P D vwCl (kX4 cB cI mo mb ma w_zf w_nf w_hf w_cf w_sp w_pc w_on w_wt w_ht w_bg w_cn w_al x1 w_ie w_ww w_th w_mm w_bs) H := hP
  have hD : va_D A (kX4 cB cI mo mb ma w_zf w_nf w_hf w_cf w_sp w_pc w_on w_wt w_ht w_bg w_cn w_al x1 w_ie w_ww w_th w_mm w_bs) := hD
  have hf := hf.trans (kE1 hw2)
  rw [← hQ]
  exact W.iret (v := r3) hx hb hr (fun t ht hW => ⟨⟨r3, x1, rfl, hf.symm, by rw [ht]; exact hP, va_K.moved hW.alike hK, hD⟩, hS.F ht⟩) hS.2.2 dX4_reads_15
def fX4_writes (w_cn : Int32) (w_cl : Int32) (w_mm : Nat → Int32) (a1 : Int32) (a2 : Int32) : Int32 × Int32 × (Nat → Int32) := (kU1 ((w_cl + (1 : Int32))) (fun (x1 : Int32) => (kIf (kEq (a1 &&& (65535 : Int32)) (65284 : Int32)) (kU1 (fX4_puts w_mm (65284 : Int32) (0 : Int32)) (fun (b5 : Nat → Int32) => ((0 : Int32), x1, b5))) (kU1 (fX4_puts w_mm a1 a2) (fun (b3 : Nat → Int32) => (w_cn, x1, b3))))))
def rmX4_writes : Room := { frames := 1, cells := 0, slots := 0, locals := 22 }
def wwX4_writes : List Cond := Cond.code yX4_writes cX4_writes 3 none :: wsL_law
theorem hdX4_writes : yX4_writes.cls = RX4 ∧ yX4_writes.cls ≠ "java/lang/invoke/MethodHandle" ∧ yX4_writes.cls ≠ "java/lang/invoke/VarHandle" ∧ (parseMethodDescriptor yX4_writes.desc).map (fun d => d.parameters.length) = some 2 := by decide +kernel
set_option maxHeartbeats 4000000 in
set_option maxRecDepth 100000 in
theorem c_X4_writes (l : Launch) (D : va_G) (cB : ClassId) (cI : ClassId) (mo mb ma sz : Nat) (w_zf : Bool) (w_nf : Bool) (w_hf : Bool) (w_cf : Bool) (w_sp : Int32) (w_pc : Int32) (w_on : Bool) (w_wt : Bool) (w_ht : Bool) (w_bg : Bool) (w_cn : Int32) (w_al : Int32) (w_cl : Int32) (w_ie : Bool) (w_ww : Bool) (w_th : Int32) (w_mm : Nat → Int32) (w_bs : Nat → Int32) (a1 : Int32) (a2 : Int32)  : Met l yX4_writes wwX4_writes rmX4_writes (va_Pc [.ref mo, .int a1, .int a2] (kp D (kX4 cB cI mo mb ma w_zf w_nf w_hf w_cf w_sp w_pc w_on w_wt w_ht w_bg w_cn w_al w_cl w_ie w_ww w_th w_mm w_bs) [(cB, .byte), (cI, .int)] sz)) (va_Qv (fun (u9 : Int32 × Int32 × (Nat → Int32)) => u9 = fX4_writes w_cn w_cl w_mm a1 a2) (fun u9 t => kq D (kX4 cB cI mo mb ma w_zf w_nf w_hf w_cf w_sp w_pc w_on w_wt w_ht w_bg (u9.1) w_al (u9.2.1) w_ie w_ww w_th (u9.2.2) w_bs) [(cB, .byte), (cI, .int)] (va_A (kX4 cB cI mo mb ma w_zf w_nf w_hf w_cf w_sp w_pc w_on w_wt w_ht w_bg w_cn w_al w_cl w_ie w_ww w_th w_mm w_bs) sz) t) (va_A (kX4 cB cI mo mb ma w_zf w_nf w_hf w_cf w_sp w_pc w_on w_wt w_ht w_bg w_cn w_al w_cl w_ie w_ww w_th w_mm w_bs) sz)) 0 0 (va_A (kX4 cB cI mo mb ma w_zf w_nf w_hf w_cf w_sp w_pc w_on w_wt w_ht w_bg w_cn w_al w_cl w_ie w_ww w_th w_mm w_bs) sz) := by
  refine Met.ofW (cc := cX4_writes) (maxL := 3) (ret := none) (by decide) rfl ?_
  intro p e s m args below meth c s₁ B hml hv
  obtain ⟨rfl, hsz, hP, hK, hD0, hT⟩ := hv
  have hx := B.exec
  have hb := B.bytes
  have hr := B.returns
  have hts := atoms_spec (ws := wwX4_writes) B.pre
  have hws : ∀ w ∈ wsL_law, w.before _ s = true := fun w h => hts w (List.mem_cons_of_mem _ h)
  have hown : s.vm.findClass RX4 = some m.cls := findClass_of_methodNamed B.named
  have hlocks := B.notSynchronized
  subst hsz
  have hD := hD0.self (sz := s.heap.size)
  generalize hAe : va_A (kX4 cB cI mo mb ma w_zf w_nf w_hf w_cf w_sp w_pc w_on w_wt w_ht w_bg w_cn w_al w_cl w_ie w_ww w_th w_mm w_bs) s.heap.size = A at hD hT ⊢
  have hA : ∀ q : Nat, s.heap.size ≤ q → A q := fun q h => by rw [← hAe]; exact Or.inr h
  have hS : va_S A s.heap s.heap [] := va_S.rf
  have hl := lv_entry ([.ref mo, .int a1, .int a2]) (n := 3) (Nat.le_of_ble_eq_true rfl)
  rw [lg_entry_eq]
  generalize (lg_sl ([.ref mo, .int a1, .int a2]) ++ List.replicate (3 - (lg_sl ([.ref mo, .int a1, .int a2])).length) Slot.unset).toArray = ls at hl ⊢
  have hl : lv_has ls 3 [(0, .ref mo), (1, .int a1), (2, .int a2)] := hl
  generalize hQ : MQ _ _ _ _ _ _ _ = Q
  obtain ⟨H, hHe⟩ : ∃ H : Heap, H = s.heap := ⟨_, rfl⟩
  obtain ⟨locs, hle⟩ : ∃ L : List Loc, L = [] := ⟨_, rfl⟩
  have hP : va_P D vwCl (kX4 cB cI mo mb ma w_zf w_nf w_hf w_cf w_sp w_pc w_on w_wt w_ht w_bg w_cn w_al w_cl w_ie w_ww w_th w_mm w_bs) H := by rw [hHe]; exact hP
  have hS : va_S A s.heap H locs := by rw [hHe, hle]; exact hS
  refine kw_start hHe.symm hle.symm ?_
  have hf : fX4_writes w_cn w_cl w_mm a1 a2 = fX4_writes w_cn w_cl w_mm a1 a2 := rfl
  refine lv_aload_n hx hb dX4_writes_0 rfl (lv_at hl 0 rfl) ?_
  refine lv_dup hx hb dX4_writes_1 rfl ?_
  refine va_get (D := D) (ci := 4) (v := .int w_cl) (C := RX4) (T := TX4) (N := 18) hx hb hws inlX4 hown hK hP 0 rfl rfl 14 (by decide) (hws _ mw_367) (fun _ h9 => h9) rfl dX4_writes_2 ?_
  refine lv_iconst (v := 1) hx hb dX4_writes_5 (by decide) ?_
  refine lv_iadd hx hb dX4_writes_6 ?_
  refine lv_topi (fun x1 ex1 => ?_)
  have hf := hf.trans (kE1 ex1)
  refine va_put (D := D) (ci := 4) (v := .int x1) (ty := .int) (C := RX4) (T := TX4) (N := 18) hx hb hws inlX4 tyX4 tyX4_ok nmX4 hown hK hP hD hS 0 rfl rfl 14 (by decide) (hws _ mw_367) (fun _ h9 => h9) rfl (tyX4_ok 14 (by decide)) rfl rfl (Nat.le_of_ble_eq_true rfl) dX4_writes_7 (fun H locs hP hD hS => ?_)
  have hP : va_P D vwCl (kX4 cB cI mo mb ma w_zf w_nf w_hf w_cf w_sp w_pc w_on w_wt w_ht w_bg w_cn w_al x1 w_ie w_ww w_th w_mm w_bs) H := hP
  have hD : va_D A (kX4 cB cI mo mb ma w_zf w_nf w_hf w_cf w_sp w_pc w_on w_wt w_ht w_bg w_cn w_al x1 w_ie w_ww w_th w_mm w_bs) := hD
  refine lv_iload_n hx hb dX4_writes_10 rfl (lv_at hl 1 rfl) ?_
  refine lv_ldc (v := 65535) hx hb hown (hws _ mw_61) dX4_writes_11 ?_
  refine lv_iand hx hb dX4_writes_13 ?_
  refine lv_ldc (v := 65284) hx hb hown (hws _ mw_387) dX4_writes_14 ?_
  refine lv_icmp_ne (tgt := 34) hx hb dX4_writes_16 (by decide) (fun c2 => ?_) (fun c2 => ?_)
  · have hf := hf.trans (kf_eq c2)
    refine lv_aload_n hx hb dX4_writes_34 rfl (lv_at hl 0 rfl) ?_
    refine lv_iload_n hx hb dX4_writes_35 rfl (lv_at hl 1 rfl) ?_
    refine lv_iload_n hx hb dX4_writes_36 rfl (lv_at hl 2 rfl) ?_
    refine kc_Vv (wr := []) (As := [.int a1, .int a2]) (rest := []) (fun u9 => (kX4 cB cI mo mb ma w_zf w_nf w_hf w_cf w_sp w_pc w_on w_wt w_ht w_bg w_cn w_al x1 w_ie w_ww w_th u9 w_bs)) ⟨hx, hb, hml, hown, hws⟩ hK hP hD hS hA hT (c_X4_puts l D cB cI mo mb ma H.size w_zf w_nf w_hf w_cf w_sp w_pc w_on w_wt w_ht w_bg w_cn w_al x1 w_ie w_ww w_th w_mm w_bs a1 a2) (cwV 2 hws (gw_V mw_62 mw_63 mw_64 mw_5 mw_65) rfl rfl rfl hdX4_puts ⟨Nat.le_of_ble_eq_true rfl, Nat.le_of_ble_eq_true rfl⟩) [0, 1, 2] [] [0, 1] [0, 1, 2] rfl rfl rfl rfl (by decide) rfl (fun _ => rfl) rfl 0 rfl rfl rfl rfl hl.1 rfl (Nat.le_of_ble_eq_true rfl) dX4_writes_37 ⟨Nat.zero_le _, Nat.zero_le _⟩ (fun b3 H locs hw4 hP hD hS => ?_)
    have hP : va_P D vwCl (kX4 cB cI mo mb ma w_zf w_nf w_hf w_cf w_sp w_pc w_on w_wt w_ht w_bg w_cn w_al x1 w_ie w_ww w_th b3 w_bs) H := hP
    have hD : va_D A (kX4 cB cI mo mb ma w_zf w_nf w_hf w_cf w_sp w_pc w_on w_wt w_ht w_bg w_cn w_al x1 w_ie w_ww w_th b3 w_bs) := hD
    have hf := hf.trans (kE1 hw4)
    rw [← hQ]
    exact W.vret hx hb hr (fun t ht hW => ⟨⟨(w_cn, x1, b3), rfl, hf.symm, by rw [ht]; exact hP, va_K.moved hW.alike hK, hD⟩, hS.F ht⟩) hS.2.2 dX4_writes_40
  · have hf := hf.trans (kt_eq c2)
    refine lv_aload_n hx hb dX4_writes_19 rfl (lv_at hl 0 rfl) ?_
    refine lv_ldc (v := 65284) hx hb hown (hws _ mw_387) dX4_writes_20 ?_
    refine lv_iconst (v := 0) hx hb dX4_writes_22 (by decide) ?_
    refine kc_Vv (wr := []) (As := [.int (65284 : Int32), .int (0 : Int32)]) (rest := []) (fun u9 => (kX4 cB cI mo mb ma w_zf w_nf w_hf w_cf w_sp w_pc w_on w_wt w_ht w_bg w_cn w_al x1 w_ie w_ww w_th u9 w_bs)) ⟨hx, hb, hml, hown, hws⟩ hK hP hD hS hA hT (c_X4_puts l D cB cI mo mb ma H.size w_zf w_nf w_hf w_cf w_sp w_pc w_on w_wt w_ht w_bg w_cn w_al x1 w_ie w_ww w_th w_mm w_bs (65284 : Int32) (0 : Int32)) (cwV 2 hws (gw_V mw_62 mw_63 mw_64 mw_5 mw_65) rfl rfl rfl hdX4_puts ⟨Nat.le_of_ble_eq_true rfl, Nat.le_of_ble_eq_true rfl⟩) [0, 1, 2] [] [0, 1] [0, 1, 2] rfl rfl rfl rfl (by decide) rfl (fun _ => rfl) rfl 0 rfl rfl rfl rfl hl.1 rfl (Nat.le_of_ble_eq_true rfl) dX4_writes_23 ⟨Nat.zero_le _, Nat.zero_le _⟩ (fun b5 H locs hw6 hP hD hS => ?_)
    have hP : va_P D vwCl (kX4 cB cI mo mb ma w_zf w_nf w_hf w_cf w_sp w_pc w_on w_wt w_ht w_bg w_cn w_al x1 w_ie w_ww w_th b5 w_bs) H := hP
    have hD : va_D A (kX4 cB cI mo mb ma w_zf w_nf w_hf w_cf w_sp w_pc w_on w_wt w_ht w_bg w_cn w_al x1 w_ie w_ww w_th b5 w_bs) := hD
    have hf := hf.trans (kE1 hw6)
    refine lv_aload_n hx hb dX4_writes_26 rfl (lv_at hl 0 rfl) ?_
    refine lv_iconst (v := 0) hx hb dX4_writes_27 (by decide) ?_
    refine va_put (D := D) (ci := 4) (v := .int (0 : Int32)) (ty := .int) (C := RX4) (T := TX4) (N := 18) hx hb hws inlX4 tyX4 tyX4_ok nmX4 hown hK hP hD hS 0 rfl rfl 12 (by decide) (hws _ mw_388) (fun _ h9 => h9) rfl (tyX4_ok 12 (by decide)) rfl rfl (Nat.le_of_ble_eq_true rfl) dX4_writes_28 (fun H locs hP hD hS => ?_)
    have hP : va_P D vwCl (kX4 cB cI mo mb ma w_zf w_nf w_hf w_cf w_sp w_pc w_on w_wt w_ht w_bg (0 : Int32) w_al x1 w_ie w_ww w_th b5 w_bs) H := hP
    have hD : va_D A (kX4 cB cI mo mb ma w_zf w_nf w_hf w_cf w_sp w_pc w_on w_wt w_ht w_bg (0 : Int32) w_al x1 w_ie w_ww w_th b5 w_bs) := hD
    refine lv_goto (tgt := 40) hx hb dX4_writes_31 (by decide) ?_
    rw [← hQ]
    exact W.vret hx hb hr (fun t ht hW => ⟨⟨((0 : Int32), x1, b5), rfl, hf.symm, by rw [ht]; exact hP, va_K.moved hW.alike hK, hD⟩, hS.F ht⟩) hS.2.2 dX4_writes_40
def fX4_fetch (w_pc : Int32) (w_cl : Int32) (w_mm : Nat → Int32)  : Int32 × Int32 × Int32 := (kU2 (fX4_reads w_cl w_mm w_pc) (fun (r3 : Int32) (b1 : Int32) => (kU1 (((w_pc + (1 : Int32)) &&& (65535 : Int32))) (fun (x4 : Int32) => (r3, x4, b1)))))
def rmX4_fetch : Room := { frames := 2, cells := 0, slots := 0, locals := 42 }
def wwX4_fetch : List Cond := Cond.code yX4_fetch cX4_fetch 2 (some .int) :: wsL_law
theorem hdX4_fetch : yX4_fetch.cls = RX4 ∧ yX4_fetch.cls ≠ "java/lang/invoke/MethodHandle" ∧ yX4_fetch.cls ≠ "java/lang/invoke/VarHandle" ∧ (parseMethodDescriptor yX4_fetch.desc).map (fun d => d.parameters.length) = some 0 := by decide +kernel
set_option maxHeartbeats 4000000 in
set_option maxRecDepth 100000 in
theorem c_X4_fetch (l : Launch) (D : va_G) (cB : ClassId) (cI : ClassId) (mo mb ma sz : Nat) (w_zf : Bool) (w_nf : Bool) (w_hf : Bool) (w_cf : Bool) (w_sp : Int32) (w_pc : Int32) (w_on : Bool) (w_wt : Bool) (w_ht : Bool) (w_bg : Bool) (w_cn : Int32) (w_al : Int32) (w_cl : Int32) (w_ie : Bool) (w_ww : Bool) (w_th : Int32) (w_mm : Nat → Int32) (w_bs : Nat → Int32)   : Met l yX4_fetch wwX4_fetch rmX4_fetch (va_Pc [.ref mo] (kp D (kX4 cB cI mo mb ma w_zf w_nf w_hf w_cf w_sp w_pc w_on w_wt w_ht w_bg w_cn w_al w_cl w_ie w_ww w_th w_mm w_bs) [(cB, .byte), (cI, .int)] sz)) (va_Qi (fun (r : Int32) (u9 : Int32 × Int32) => (r, u9) = fX4_fetch w_pc w_cl w_mm) (fun u9 t => kq D (kX4 cB cI mo mb ma w_zf w_nf w_hf w_cf w_sp (u9.1) w_on w_wt w_ht w_bg w_cn w_al (u9.2) w_ie w_ww w_th w_mm w_bs) [(cB, .byte), (cI, .int)] (va_A (kX4 cB cI mo mb ma w_zf w_nf w_hf w_cf w_sp w_pc w_on w_wt w_ht w_bg w_cn w_al w_cl w_ie w_ww w_th w_mm w_bs) sz) t) (va_A (kX4 cB cI mo mb ma w_zf w_nf w_hf w_cf w_sp w_pc w_on w_wt w_ht w_bg w_cn w_al w_cl w_ie w_ww w_th w_mm w_bs) sz)) 0 0 (va_A (kX4 cB cI mo mb ma w_zf w_nf w_hf w_cf w_sp w_pc w_on w_wt w_ht w_bg w_cn w_al w_cl w_ie w_ww w_th w_mm w_bs) sz) := by
  refine Met.ofW (cc := cX4_fetch) (maxL := 2) (ret := (some .int)) (by decide) rfl ?_
  intro p e s m args below meth c s₁ B hml hv
  obtain ⟨rfl, hsz, hP, hK, hD0, hT⟩ := hv
  have hx := B.exec
  have hb := B.bytes
  have hr := B.returns
  have hts := atoms_spec (ws := wwX4_fetch) B.pre
  have hws : ∀ w ∈ wsL_law, w.before _ s = true := fun w h => hts w (List.mem_cons_of_mem _ h)
  have hown : s.vm.findClass RX4 = some m.cls := findClass_of_methodNamed B.named
  have hlocks := B.notSynchronized
  subst hsz
  have hD := hD0.self (sz := s.heap.size)
  generalize hAe : va_A (kX4 cB cI mo mb ma w_zf w_nf w_hf w_cf w_sp w_pc w_on w_wt w_ht w_bg w_cn w_al w_cl w_ie w_ww w_th w_mm w_bs) s.heap.size = A at hD hT ⊢
  have hA : ∀ q : Nat, s.heap.size ≤ q → A q := fun q h => by rw [← hAe]; exact Or.inr h
  have hS : va_S A s.heap s.heap [] := va_S.rf
  have hl := lv_entry ([.ref mo]) (n := 2) (Nat.le_of_ble_eq_true rfl)
  rw [lg_entry_eq]
  generalize (lg_sl ([.ref mo]) ++ List.replicate (2 - (lg_sl ([.ref mo])).length) Slot.unset).toArray = ls at hl ⊢
  have hl : lv_has ls 2 [(0, .ref mo)] := hl
  generalize hQ : MQ _ _ _ _ _ _ _ = Q
  obtain ⟨H, hHe⟩ : ∃ H : Heap, H = s.heap := ⟨_, rfl⟩
  obtain ⟨locs, hle⟩ : ∃ L : List Loc, L = [] := ⟨_, rfl⟩
  have hP : va_P D vwCl (kX4 cB cI mo mb ma w_zf w_nf w_hf w_cf w_sp w_pc w_on w_wt w_ht w_bg w_cn w_al w_cl w_ie w_ww w_th w_mm w_bs) H := by rw [hHe]; exact hP
  have hS : va_S A s.heap H locs := by rw [hHe, hle]; exact hS
  refine kw_start hHe.symm hle.symm ?_
  have hf : fX4_fetch w_pc w_cl w_mm = fX4_fetch w_pc w_cl w_mm := rfl
  refine lv_aload_n hx hb dX4_fetch_0 rfl (lv_at hl 0 rfl) ?_
  refine lv_aload_n hx hb dX4_fetch_1 rfl (lv_at hl 0 rfl) ?_
  refine va_get (D := D) (ci := 4) (v := .int w_pc) (C := RX4) (T := TX4) (N := 18) hx hb hws inlX4 hown hK hP 0 rfl rfl 7 (by decide) (hws _ mw_370) (fun _ h9 => h9) rfl dX4_fetch_2 ?_
  refine kc_Vi (wr := []) (As := [.int w_pc]) (rest := []) (fun u9 => (kX4 cB cI mo mb ma w_zf w_nf w_hf w_cf w_sp w_pc w_on w_wt w_ht w_bg w_cn w_al u9 w_ie w_ww w_th w_mm w_bs)) ⟨hx, hb, hml, hown, hws⟩ hK hP hD hS hA hT (c_X4_reads l D cB cI mo mb ma H.size w_zf w_nf w_hf w_cf w_sp w_pc w_on w_wt w_ht w_bg w_cn w_al w_cl w_ie w_ww w_th w_mm w_bs w_pc) (cwV 1 hws (gw_V mw_406 mw_407 mw_408 mw_5 mw_409) rfl rfl rfl hdX4_reads ⟨Nat.le_of_ble_eq_true rfl, Nat.le_of_ble_eq_true rfl⟩) [0, 1, 2] [] [0, 1] [0, 1, 2] rfl rfl rfl rfl (by decide) rfl (fun _ => rfl) rfl 0 rfl rfl rfl rfl hl.1 rfl (Nat.le_of_ble_eq_true rfl) dX4_fetch_5 ⟨Nat.zero_le _, Nat.zero_le _⟩ (fun r3 b1 H locs hw2 hP hD hS => ?_)
  have hP : va_P D vwCl (kX4 cB cI mo mb ma w_zf w_nf w_hf w_cf w_sp w_pc w_on w_wt w_ht w_bg w_cn w_al b1 w_ie w_ww w_th w_mm w_bs) H := hP
  have hD : va_D A (kX4 cB cI mo mb ma w_zf w_nf w_hf w_cf w_sp w_pc w_on w_wt w_ht w_bg w_cn w_al b1 w_ie w_ww w_th w_mm w_bs) := hD
  have hf := hf.trans (kE2 hw2)
  refine lv_istore_n (lv' := [(1, .int r3), (0, .ref mo)]) hx hb dX4_fetch_8 rfl hl (by decide) rfl (fun ls hl => ?_)
  refine lv_aload_n hx hb dX4_fetch_9 rfl (lv_at hl 1 rfl) ?_
  refine lv_aload_n hx hb dX4_fetch_10 rfl (lv_at hl 1 rfl) ?_
  refine va_get (D := D) (ci := 4) (v := .int w_pc) (C := RX4) (T := TX4) (N := 18) hx hb hws inlX4 hown hK hP 0 rfl rfl 7 (by decide) (hws _ mw_370) (fun _ h9 => h9) rfl dX4_fetch_11 ?_
  refine lv_iconst (v := 1) hx hb dX4_fetch_14 (by decide) ?_
  refine lv_iadd hx hb dX4_fetch_15 ?_
  refine lv_ldc (v := 65535) hx hb hown (hws _ mw_61) dX4_fetch_16 ?_
  refine lv_iand hx hb dX4_fetch_18 ?_
  refine lv_topi (fun x4 ex4 => ?_)
  have hf := hf.trans (kE1 ex4)
  refine va_put (D := D) (ci := 4) (v := .int x4) (ty := .int) (C := RX4) (T := TX4) (N := 18) hx hb hws inlX4 tyX4 tyX4_ok nmX4 hown hK hP hD hS 0 rfl rfl 7 (by decide) (hws _ mw_370) (fun _ h9 => h9) rfl (tyX4_ok 7 (by decide)) rfl rfl (Nat.le_of_ble_eq_true rfl) dX4_fetch_19 (fun H locs hP hD hS => ?_)
  have hP : va_P D vwCl (kX4 cB cI mo mb ma w_zf w_nf w_hf w_cf w_sp x4 w_on w_wt w_ht w_bg w_cn w_al b1 w_ie w_ww w_th w_mm w_bs) H := hP
  have hD : va_D A (kX4 cB cI mo mb ma w_zf w_nf w_hf w_cf w_sp x4 w_on w_wt w_ht w_bg w_cn w_al b1 w_ie w_ww w_th w_mm w_bs) := hD
  refine lv_iload_n hx hb dX4_fetch_22 rfl (lv_at hl 0 rfl) ?_
  rw [← hQ]
  exact W.iret (v := r3) hx hb hr (fun t ht hW => ⟨⟨r3, (x4, b1), rfl, hf.symm, by rw [ht]; exact hP, va_K.moved hW.alike hK, hD⟩, hS.F ht⟩) hS.2.2 dX4_fetch_23
def fX4_fetchWord (w_pc : Int32) (w_cl : Int32) (w_mm : Nat → Int32)  : Int32 × Int32 × Int32 := (kU3 (fX4_fetch w_pc w_cl w_mm) (fun (r4 : Int32) (b1 : Int32) (b2 : Int32) => (kU3 (fX4_fetch b1 b2 w_mm) (fun (r8 : Int32) (b5 : Int32) (b6 : Int32) => ((r4 ||| (r8 <<< ((8 : Int32) &&& (31 : Int32)))), b5, b6)))))
def rmX4_fetchWord : Room := { frames := 3, cells := 0, slots := 0, locals := 63 }
def wwX4_fetchWord : List Cond := Cond.code yX4_fetchWord cX4_fetchWord 2 (some .int) :: wsL_law
theorem hdX4_fetchWord : yX4_fetchWord.cls = RX4 ∧ yX4_fetchWord.cls ≠ "java/lang/invoke/MethodHandle" ∧ yX4_fetchWord.cls ≠ "java/lang/invoke/VarHandle" ∧ (parseMethodDescriptor yX4_fetchWord.desc).map (fun d => d.parameters.length) = some 0 := by decide +kernel
set_option maxHeartbeats 4000000 in
set_option maxRecDepth 100000 in
theorem c_X4_fetchWord (l : Launch) (D : va_G) (cB : ClassId) (cI : ClassId) (mo mb ma sz : Nat) (w_zf : Bool) (w_nf : Bool) (w_hf : Bool) (w_cf : Bool) (w_sp : Int32) (w_pc : Int32) (w_on : Bool) (w_wt : Bool) (w_ht : Bool) (w_bg : Bool) (w_cn : Int32) (w_al : Int32) (w_cl : Int32) (w_ie : Bool) (w_ww : Bool) (w_th : Int32) (w_mm : Nat → Int32) (w_bs : Nat → Int32)   : Met l yX4_fetchWord wwX4_fetchWord rmX4_fetchWord (va_Pc [.ref mo] (kp D (kX4 cB cI mo mb ma w_zf w_nf w_hf w_cf w_sp w_pc w_on w_wt w_ht w_bg w_cn w_al w_cl w_ie w_ww w_th w_mm w_bs) [(cB, .byte), (cI, .int)] sz)) (va_Qi (fun (r : Int32) (u9 : Int32 × Int32) => (r, u9) = fX4_fetchWord w_pc w_cl w_mm) (fun u9 t => kq D (kX4 cB cI mo mb ma w_zf w_nf w_hf w_cf w_sp (u9.1) w_on w_wt w_ht w_bg w_cn w_al (u9.2) w_ie w_ww w_th w_mm w_bs) [(cB, .byte), (cI, .int)] (va_A (kX4 cB cI mo mb ma w_zf w_nf w_hf w_cf w_sp w_pc w_on w_wt w_ht w_bg w_cn w_al w_cl w_ie w_ww w_th w_mm w_bs) sz) t) (va_A (kX4 cB cI mo mb ma w_zf w_nf w_hf w_cf w_sp w_pc w_on w_wt w_ht w_bg w_cn w_al w_cl w_ie w_ww w_th w_mm w_bs) sz)) 0 0 (va_A (kX4 cB cI mo mb ma w_zf w_nf w_hf w_cf w_sp w_pc w_on w_wt w_ht w_bg w_cn w_al w_cl w_ie w_ww w_th w_mm w_bs) sz) := by
  refine Met.ofW (cc := cX4_fetchWord) (maxL := 2) (ret := (some .int)) (by decide) rfl ?_
  intro p e s m args below meth c s₁ B hml hv
  obtain ⟨rfl, hsz, hP, hK, hD0, hT⟩ := hv
  have hx := B.exec
  have hb := B.bytes
  have hr := B.returns
  have hts := atoms_spec (ws := wwX4_fetchWord) B.pre
  have hws : ∀ w ∈ wsL_law, w.before _ s = true := fun w h => hts w (List.mem_cons_of_mem _ h)
  have hown : s.vm.findClass RX4 = some m.cls := findClass_of_methodNamed B.named
  have hlocks := B.notSynchronized
  subst hsz
  have hD := hD0.self (sz := s.heap.size)
  generalize hAe : va_A (kX4 cB cI mo mb ma w_zf w_nf w_hf w_cf w_sp w_pc w_on w_wt w_ht w_bg w_cn w_al w_cl w_ie w_ww w_th w_mm w_bs) s.heap.size = A at hD hT ⊢
  have hA : ∀ q : Nat, s.heap.size ≤ q → A q := fun q h => by rw [← hAe]; exact Or.inr h
  have hS : va_S A s.heap s.heap [] := va_S.rf
  have hl := lv_entry ([.ref mo]) (n := 2) (Nat.le_of_ble_eq_true rfl)
  rw [lg_entry_eq]
  generalize (lg_sl ([.ref mo]) ++ List.replicate (2 - (lg_sl ([.ref mo])).length) Slot.unset).toArray = ls at hl ⊢
  have hl : lv_has ls 2 [(0, .ref mo)] := hl
  generalize hQ : MQ _ _ _ _ _ _ _ = Q
  obtain ⟨H, hHe⟩ : ∃ H : Heap, H = s.heap := ⟨_, rfl⟩
  obtain ⟨locs, hle⟩ : ∃ L : List Loc, L = [] := ⟨_, rfl⟩
  have hP : va_P D vwCl (kX4 cB cI mo mb ma w_zf w_nf w_hf w_cf w_sp w_pc w_on w_wt w_ht w_bg w_cn w_al w_cl w_ie w_ww w_th w_mm w_bs) H := by rw [hHe]; exact hP
  have hS : va_S A s.heap H locs := by rw [hHe, hle]; exact hS
  refine kw_start hHe.symm hle.symm ?_
  have hf : fX4_fetchWord w_pc w_cl w_mm = fX4_fetchWord w_pc w_cl w_mm := rfl
  refine lv_aload_n hx hb dX4_fetchWord_0 rfl (lv_at hl 0 rfl) ?_
  refine kc_Vi (wr := []) (As := []) (rest := []) (fun u9 => (kX4 cB cI mo mb ma w_zf w_nf w_hf w_cf w_sp (u9.1) w_on w_wt w_ht w_bg w_cn w_al (u9.2) w_ie w_ww w_th w_mm w_bs)) ⟨hx, hb, hml, hown, hws⟩ hK hP hD hS hA hT (c_X4_fetch l D cB cI mo mb ma H.size w_zf w_nf w_hf w_cf w_sp w_pc w_on w_wt w_ht w_bg w_cn w_al w_cl w_ie w_ww w_th w_mm w_bs ) (cwV 0 hws (gw_V mw_422 mw_423 mw_424 mw_5 mw_425) rfl rfl rfl hdX4_fetch ⟨Nat.le_of_ble_eq_true rfl, Nat.le_of_ble_eq_true rfl⟩) [0, 1, 2] [] [0, 1] [0, 1, 2] rfl rfl rfl rfl (by decide) rfl (fun _ => rfl) rfl 0 rfl rfl rfl rfl hl.1 rfl (Nat.le_of_ble_eq_true rfl) dX4_fetchWord_1 ⟨Nat.zero_le _, Nat.zero_le _⟩ (fun r4 u9 H locs hw3 hP hD hS => ?_)
  obtain ⟨b1, b2⟩ := u9
  have hP : va_P D vwCl (kX4 cB cI mo mb ma w_zf w_nf w_hf w_cf w_sp b1 w_on w_wt w_ht w_bg w_cn w_al b2 w_ie w_ww w_th w_mm w_bs) H := hP
  have hD : va_D A (kX4 cB cI mo mb ma w_zf w_nf w_hf w_cf w_sp b1 w_on w_wt w_ht w_bg w_cn w_al b2 w_ie w_ww w_th w_mm w_bs) := hD
  have hf := hf.trans (kE3 hw3)
  refine lv_istore_n (lv' := [(1, .int r4), (0, .ref mo)]) hx hb dX4_fetchWord_4 rfl hl (by decide) rfl (fun ls hl => ?_)
  refine lv_iload_n hx hb dX4_fetchWord_5 rfl (lv_at hl 0 rfl) ?_
  refine lv_aload_n hx hb dX4_fetchWord_6 rfl (lv_at hl 1 rfl) ?_
  refine kc_Vi (wr := []) (As := []) (rest := [.int r4]) (fun u9 => (kX4 cB cI mo mb ma w_zf w_nf w_hf w_cf w_sp (u9.1) w_on w_wt w_ht w_bg w_cn w_al (u9.2) w_ie w_ww w_th w_mm w_bs)) ⟨hx, hb, hml, hown, hws⟩ hK hP hD hS hA hT (c_X4_fetch l D cB cI mo mb ma H.size w_zf w_nf w_hf w_cf w_sp b1 w_on w_wt w_ht w_bg w_cn w_al b2 w_ie w_ww w_th w_mm w_bs ) (cwV 0 hws (gw_V mw_422 mw_423 mw_424 mw_5 mw_425) rfl rfl rfl hdX4_fetch ⟨Nat.le_of_ble_eq_true rfl, Nat.le_of_ble_eq_true rfl⟩) [0, 1, 2] [] [0, 1] [0, 1, 2] rfl rfl rfl rfl (by decide) rfl (fun _ => rfl) rfl 0 rfl rfl rfl rfl hl.1 rfl (Nat.le_of_ble_eq_true rfl) dX4_fetchWord_7 ⟨Nat.zero_le _, Nat.zero_le _⟩ (fun r8 u9 H locs hw7 hP hD hS => ?_)
  obtain ⟨b5, b6⟩ := u9
  have hP : va_P D vwCl (kX4 cB cI mo mb ma w_zf w_nf w_hf w_cf w_sp b5 w_on w_wt w_ht w_bg w_cn w_al b6 w_ie w_ww w_th w_mm w_bs) H := hP
  have hD : va_D A (kX4 cB cI mo mb ma w_zf w_nf w_hf w_cf w_sp b5 w_on w_wt w_ht w_bg w_cn w_al b6 w_ie w_ww w_th w_mm w_bs) := hD
  have hf := hf.trans (kE3 hw7)
  refine lv_bipush (v := 8) hx hb dX4_fetchWord_10 (by decide) ?_
  refine lv_ishl hx hb dX4_fetchWord_12 ?_
  refine lv_ior hx hb dX4_fetchWord_13 ?_
  rw [← hQ]
  exact W.iret (v := (r4 ||| (r8 <<< ((8 : Int32) &&& (31 : Int32))))) hx hb hr (fun t ht hW => ⟨⟨(r4 ||| (r8 <<< ((8 : Int32) &&& (31 : Int32)))), (b5, b6), rfl, hf.symm, by rw [ht]; exact hP, va_K.moved hW.alike hK, hD⟩, hS.F ht⟩) hS.2.2 dX4_fetchWord_14
def fX4_push (w_sp : Int32) (w_cn : Int32) (w_cl : Int32) (w_mm : Nat → Int32) (a1 : Int32) : Int32 × Int32 × Int32 × (Nat → Int32) := (kU1 (((w_sp - (1 : Int32)) &&& (65535 : Int32))) (fun (x1 : Int32) => (kU3 (fX4_writes w_cn w_cl w_mm x1 ((a1 >>> ((8 : Int32) &&& (31 : Int32))) &&& (255 : Int32))) (fun (b2 : Int32) (b3 : Int32) (b4 : Nat → Int32) => (kU1 (((x1 - (1 : Int32)) &&& (65535 : Int32))) (fun (x6 : Int32) => (kU3 (fX4_writes b2 b3 b4 x6 (a1 &&& (255 : Int32))) (fun (b7 : Int32) (b8 : Int32) (b9 : Nat → Int32) => (x6, b7, b8, b9)))))))))
def rmX4_push : Room := { frames := 2, cells := 0, slots := 0, locals := 44 }
def wwX4_push : List Cond := Cond.code yX4_push cX4_push 2 none :: wsL_law
theorem hdX4_push : yX4_push.cls = RX4 ∧ yX4_push.cls ≠ "java/lang/invoke/MethodHandle" ∧ yX4_push.cls ≠ "java/lang/invoke/VarHandle" ∧ (parseMethodDescriptor yX4_push.desc).map (fun d => d.parameters.length) = some 1 := by decide +kernel
set_option maxHeartbeats 4000000 in
set_option maxRecDepth 100000 in
theorem c_X4_push (l : Launch) (D : va_G) (cB : ClassId) (cI : ClassId) (mo mb ma sz : Nat) (w_zf : Bool) (w_nf : Bool) (w_hf : Bool) (w_cf : Bool) (w_sp : Int32) (w_pc : Int32) (w_on : Bool) (w_wt : Bool) (w_ht : Bool) (w_bg : Bool) (w_cn : Int32) (w_al : Int32) (w_cl : Int32) (w_ie : Bool) (w_ww : Bool) (w_th : Int32) (w_mm : Nat → Int32) (w_bs : Nat → Int32) (a1 : Int32)  : Met l yX4_push wwX4_push rmX4_push (va_Pc [.ref mo, .int a1] (kp D (kX4 cB cI mo mb ma w_zf w_nf w_hf w_cf w_sp w_pc w_on w_wt w_ht w_bg w_cn w_al w_cl w_ie w_ww w_th w_mm w_bs) [(cB, .byte), (cI, .int)] sz)) (va_Qv (fun (u9 : Int32 × Int32 × Int32 × (Nat → Int32)) => u9 = fX4_push w_sp w_cn w_cl w_mm a1) (fun u9 t => kq D (kX4 cB cI mo mb ma w_zf w_nf w_hf w_cf (u9.1) w_pc w_on w_wt w_ht w_bg (u9.2.1) w_al (u9.2.2.1) w_ie w_ww w_th (u9.2.2.2) w_bs) [(cB, .byte), (cI, .int)] (va_A (kX4 cB cI mo mb ma w_zf w_nf w_hf w_cf w_sp w_pc w_on w_wt w_ht w_bg w_cn w_al w_cl w_ie w_ww w_th w_mm w_bs) sz) t) (va_A (kX4 cB cI mo mb ma w_zf w_nf w_hf w_cf w_sp w_pc w_on w_wt w_ht w_bg w_cn w_al w_cl w_ie w_ww w_th w_mm w_bs) sz)) 0 0 (va_A (kX4 cB cI mo mb ma w_zf w_nf w_hf w_cf w_sp w_pc w_on w_wt w_ht w_bg w_cn w_al w_cl w_ie w_ww w_th w_mm w_bs) sz) := by
  refine Met.ofW (cc := cX4_push) (maxL := 2) (ret := none) (by decide) rfl ?_
  intro p e s m args below meth c s₁ B hml hv
  obtain ⟨rfl, hsz, hP, hK, hD0, hT⟩ := hv
  have hx := B.exec
  have hb := B.bytes
  have hr := B.returns
  have hts := atoms_spec (ws := wwX4_push) B.pre
  have hws : ∀ w ∈ wsL_law, w.before _ s = true := fun w h => hts w (List.mem_cons_of_mem _ h)
  have hown : s.vm.findClass RX4 = some m.cls := findClass_of_methodNamed B.named
  have hlocks := B.notSynchronized
  subst hsz
  have hD := hD0.self (sz := s.heap.size)
  generalize hAe : va_A (kX4 cB cI mo mb ma w_zf w_nf w_hf w_cf w_sp w_pc w_on w_wt w_ht w_bg w_cn w_al w_cl w_ie w_ww w_th w_mm w_bs) s.heap.size = A at hD hT ⊢
  have hA : ∀ q : Nat, s.heap.size ≤ q → A q := fun q h => by rw [← hAe]; exact Or.inr h
  have hS : va_S A s.heap s.heap [] := va_S.rf
  have hl := lv_entry ([.ref mo, .int a1]) (n := 2) (Nat.le_of_ble_eq_true rfl)
  rw [lg_entry_eq]
  generalize (lg_sl ([.ref mo, .int a1]) ++ List.replicate (2 - (lg_sl ([.ref mo, .int a1])).length) Slot.unset).toArray = ls at hl ⊢
  have hl : lv_has ls 2 [(0, .ref mo), (1, .int a1)] := hl
  generalize hQ : MQ _ _ _ _ _ _ _ = Q
  obtain ⟨H, hHe⟩ : ∃ H : Heap, H = s.heap := ⟨_, rfl⟩
  obtain ⟨locs, hle⟩ : ∃ L : List Loc, L = [] := ⟨_, rfl⟩
  have hP : va_P D vwCl (kX4 cB cI mo mb ma w_zf w_nf w_hf w_cf w_sp w_pc w_on w_wt w_ht w_bg w_cn w_al w_cl w_ie w_ww w_th w_mm w_bs) H := by rw [hHe]; exact hP
  have hS : va_S A s.heap H locs := by rw [hHe, hle]; exact hS
  refine kw_start hHe.symm hle.symm ?_
  have hf : fX4_push w_sp w_cn w_cl w_mm a1 = fX4_push w_sp w_cn w_cl w_mm a1 := rfl
  refine lv_aload_n hx hb dX4_push_0 rfl (lv_at hl 0 rfl) ?_
  refine lv_aload_n hx hb dX4_push_1 rfl (lv_at hl 0 rfl) ?_
  refine va_get (D := D) (ci := 4) (v := .int w_sp) (C := RX4) (T := TX4) (N := 18) hx hb hws inlX4 hown hK hP 0 rfl rfl 6 (by decide) (hws _ mw_382) (fun _ h9 => h9) rfl dX4_push_2 ?_
  refine lv_iconst (v := 1) hx hb dX4_push_5 (by decide) ?_
  refine lv_isub hx hb dX4_push_6 ?_
  refine lv_ldc (v := 65535) hx hb hown (hws _ mw_61) dX4_push_7 ?_
  refine lv_iand hx hb dX4_push_9 ?_
  refine lv_topi (fun x1 ex1 => ?_)
  have hf := hf.trans (kE1 ex1)
  refine va_put (D := D) (ci := 4) (v := .int x1) (ty := .int) (C := RX4) (T := TX4) (N := 18) hx hb hws inlX4 tyX4 tyX4_ok nmX4 hown hK hP hD hS 0 rfl rfl 6 (by decide) (hws _ mw_382) (fun _ h9 => h9) rfl (tyX4_ok 6 (by decide)) rfl rfl (Nat.le_of_ble_eq_true rfl) dX4_push_10 (fun H locs hP hD hS => ?_)
  have hP : va_P D vwCl (kX4 cB cI mo mb ma w_zf w_nf w_hf w_cf x1 w_pc w_on w_wt w_ht w_bg w_cn w_al w_cl w_ie w_ww w_th w_mm w_bs) H := hP
  have hD : va_D A (kX4 cB cI mo mb ma w_zf w_nf w_hf w_cf x1 w_pc w_on w_wt w_ht w_bg w_cn w_al w_cl w_ie w_ww w_th w_mm w_bs) := hD
  refine lv_aload_n hx hb dX4_push_13 rfl (lv_at hl 0 rfl) ?_
  refine lv_aload_n hx hb dX4_push_14 rfl (lv_at hl 0 rfl) ?_
  refine va_get (D := D) (ci := 4) (v := .int x1) (C := RX4) (T := TX4) (N := 18) hx hb hws inlX4 hown hK hP 0 rfl rfl 6 (by decide) (hws _ mw_382) (fun _ h9 => h9) rfl dX4_push_15 ?_
  refine lv_iload_n hx hb dX4_push_18 rfl (lv_at hl 1 rfl) ?_
  refine lv_bipush (v := 8) hx hb dX4_push_19 (by decide) ?_
  refine lv_ishr hx hb dX4_push_21 ?_
  refine lv_sipush (v := 255) hx hb dX4_push_22 (by decide) ?_
  refine lv_iand hx hb dX4_push_25 ?_
  refine kc_Vv (wr := []) (As := [.int x1, .int ((a1 >>> ((8 : Int32) &&& (31 : Int32))) &&& (255 : Int32))]) (rest := []) (fun u9 => (kX4 cB cI mo mb ma w_zf w_nf w_hf w_cf x1 w_pc w_on w_wt w_ht w_bg (u9.1) w_al (u9.2.1) w_ie w_ww w_th (u9.2.2) w_bs)) ⟨hx, hb, hml, hown, hws⟩ hK hP hD hS hA hT (c_X4_writes l D cB cI mo mb ma H.size w_zf w_nf w_hf w_cf x1 w_pc w_on w_wt w_ht w_bg w_cn w_al w_cl w_ie w_ww w_th w_mm w_bs x1 ((a1 >>> ((8 : Int32) &&& (31 : Int32))) &&& (255 : Int32))) (cwV 2 hws (gw_V mw_383 mw_384 mw_385 mw_5 mw_386) rfl rfl rfl hdX4_writes ⟨Nat.le_of_ble_eq_true rfl, Nat.le_of_ble_eq_true rfl⟩) [0, 1, 2] [] [0, 1] [0, 1, 2] rfl rfl rfl rfl (by decide) rfl (fun _ => rfl) rfl 0 rfl rfl rfl rfl hl.1 rfl (Nat.le_of_ble_eq_true rfl) dX4_push_26 ⟨Nat.zero_le _, Nat.zero_le _⟩ (fun u9 H locs hw5 hP hD hS => ?_)
  obtain ⟨b2, b3, b4⟩ := u9
  have hP : va_P D vwCl (kX4 cB cI mo mb ma w_zf w_nf w_hf w_cf x1 w_pc w_on w_wt w_ht w_bg b2 w_al b3 w_ie w_ww w_th b4 w_bs) H := hP
  have hD : va_D A (kX4 cB cI mo mb ma w_zf w_nf w_hf w_cf x1 w_pc w_on w_wt w_ht w_bg b2 w_al b3 w_ie w_ww w_th b4 w_bs) := hD
  have hf := hf.trans (kE3 hw5)
  refine lv_aload_n hx hb dX4_push_29 rfl (lv_at hl 0 rfl) ?_
  refine lv_aload_n hx hb dX4_push_30 rfl (lv_at hl 0 rfl) ?_
  refine va_get (D := D) (ci := 4) (v := .int x1) (C := RX4) (T := TX4) (N := 18) hx hb hws inlX4 hown hK hP 0 rfl rfl 6 (by decide) (hws _ mw_382) (fun _ h9 => h9) rfl dX4_push_31 ?_
  refine lv_iconst (v := 1) hx hb dX4_push_34 (by decide) ?_
  refine lv_isub hx hb dX4_push_35 ?_
  refine lv_ldc (v := 65535) hx hb hown (hws _ mw_61) dX4_push_36 ?_
  refine lv_iand hx hb dX4_push_38 ?_
  refine lv_topi (fun x6 ex6 => ?_)
  have hf := hf.trans (kE1 ex6)
  refine va_put (D := D) (ci := 4) (v := .int x6) (ty := .int) (C := RX4) (T := TX4) (N := 18) hx hb hws inlX4 tyX4 tyX4_ok nmX4 hown hK hP hD hS 0 rfl rfl 6 (by decide) (hws _ mw_382) (fun _ h9 => h9) rfl (tyX4_ok 6 (by decide)) rfl rfl (Nat.le_of_ble_eq_true rfl) dX4_push_39 (fun H locs hP hD hS => ?_)
  have hP : va_P D vwCl (kX4 cB cI mo mb ma w_zf w_nf w_hf w_cf x6 w_pc w_on w_wt w_ht w_bg b2 w_al b3 w_ie w_ww w_th b4 w_bs) H := hP
  have hD : va_D A (kX4 cB cI mo mb ma w_zf w_nf w_hf w_cf x6 w_pc w_on w_wt w_ht w_bg b2 w_al b3 w_ie w_ww w_th b4 w_bs) := hD
  refine lv_aload_n hx hb dX4_push_42 rfl (lv_at hl 0 rfl) ?_
  refine lv_aload_n hx hb dX4_push_43 rfl (lv_at hl 0 rfl) ?_
  refine va_get (D := D) (ci := 4) (v := .int x6) (C := RX4) (T := TX4) (N := 18) hx hb hws inlX4 hown hK hP 0 rfl rfl 6 (by decide) (hws _ mw_382) (fun _ h9 => h9) rfl dX4_push_44 ?_
  refine lv_iload_n hx hb dX4_push_47 rfl (lv_at hl 1 rfl) ?_
  refine lv_sipush (v := 255) hx hb dX4_push_48 (by decide) ?_
  refine lv_iand hx hb dX4_push_51 ?_
  refine kc_Vv (wr := []) (As := [.int x6, .int (a1 &&& (255 : Int32))]) (rest := []) (fun u9 => (kX4 cB cI mo mb ma w_zf w_nf w_hf w_cf x6 w_pc w_on w_wt w_ht w_bg (u9.1) w_al (u9.2.1) w_ie w_ww w_th (u9.2.2) w_bs)) ⟨hx, hb, hml, hown, hws⟩ hK hP hD hS hA hT (c_X4_writes l D cB cI mo mb ma H.size w_zf w_nf w_hf w_cf x6 w_pc w_on w_wt w_ht w_bg b2 w_al b3 w_ie w_ww w_th b4 w_bs x6 (a1 &&& (255 : Int32))) (cwV 2 hws (gw_V mw_383 mw_384 mw_385 mw_5 mw_386) rfl rfl rfl hdX4_writes ⟨Nat.le_of_ble_eq_true rfl, Nat.le_of_ble_eq_true rfl⟩) [0, 1, 2] [] [0, 1] [0, 1, 2] rfl rfl rfl rfl (by decide) rfl (fun _ => rfl) rfl 0 rfl rfl rfl rfl hl.1 rfl (Nat.le_of_ble_eq_true rfl) dX4_push_52 ⟨Nat.zero_le _, Nat.zero_le _⟩ (fun u9 H locs hw10 hP hD hS => ?_)
  obtain ⟨b7, b8, b9⟩ := u9
  have hP : va_P D vwCl (kX4 cB cI mo mb ma w_zf w_nf w_hf w_cf x6 w_pc w_on w_wt w_ht w_bg b7 w_al b8 w_ie w_ww w_th b9 w_bs) H := hP
  have hD : va_D A (kX4 cB cI mo mb ma w_zf w_nf w_hf w_cf x6 w_pc w_on w_wt w_ht w_bg b7 w_al b8 w_ie w_ww w_th b9 w_bs) := hD
  have hf := hf.trans (kE3 hw10)
  rw [← hQ]
  exact W.vret hx hb hr (fun t ht hW => ⟨⟨(x6, b7, b8, b9), rfl, hf.symm, by rw [ht]; exact hP, va_K.moved hW.alike hK, hD⟩, hS.F ht⟩) hS.2.2 dX4_push_55
def fX4_pop (w_sp : Int32) (w_cl : Int32) (w_mm : Nat → Int32)  : Int32 × Int32 × Int32 := (kU2 (fX4_reads w_cl w_mm w_sp) (fun (r3 : Int32) (b1 : Int32) => (kU2 (fX4_reads b1 w_mm (w_sp + (1 : Int32))) (fun (r6 : Int32) (b4 : Int32) => (kU1 (((w_sp + (2 : Int32)) &&& (65535 : Int32))) (fun (x7 : Int32) => ((r3 ||| (r6 <<< ((8 : Int32) &&& (31 : Int32)))), x7, b4)))))))
def rmX4_pop : Room := { frames := 2, cells := 0, slots := 0, locals := 42 }
def wwX4_pop : List Cond := Cond.code yX4_pop cX4_pop 3 (some .int) :: wsL_law
theorem hdX4_pop : yX4_pop.cls = RX4 ∧ yX4_pop.cls ≠ "java/lang/invoke/MethodHandle" ∧ yX4_pop.cls ≠ "java/lang/invoke/VarHandle" ∧ (parseMethodDescriptor yX4_pop.desc).map (fun d => d.parameters.length) = some 0 := by decide +kernel
set_option maxHeartbeats 4000000 in
set_option maxRecDepth 100000 in
theorem c_X4_pop (l : Launch) (D : va_G) (cB : ClassId) (cI : ClassId) (mo mb ma sz : Nat) (w_zf : Bool) (w_nf : Bool) (w_hf : Bool) (w_cf : Bool) (w_sp : Int32) (w_pc : Int32) (w_on : Bool) (w_wt : Bool) (w_ht : Bool) (w_bg : Bool) (w_cn : Int32) (w_al : Int32) (w_cl : Int32) (w_ie : Bool) (w_ww : Bool) (w_th : Int32) (w_mm : Nat → Int32) (w_bs : Nat → Int32)   : Met l yX4_pop wwX4_pop rmX4_pop (va_Pc [.ref mo] (kp D (kX4 cB cI mo mb ma w_zf w_nf w_hf w_cf w_sp w_pc w_on w_wt w_ht w_bg w_cn w_al w_cl w_ie w_ww w_th w_mm w_bs) [(cB, .byte), (cI, .int)] sz)) (va_Qi (fun (r : Int32) (u9 : Int32 × Int32) => (r, u9) = fX4_pop w_sp w_cl w_mm) (fun u9 t => kq D (kX4 cB cI mo mb ma w_zf w_nf w_hf w_cf (u9.1) w_pc w_on w_wt w_ht w_bg w_cn w_al (u9.2) w_ie w_ww w_th w_mm w_bs) [(cB, .byte), (cI, .int)] (va_A (kX4 cB cI mo mb ma w_zf w_nf w_hf w_cf w_sp w_pc w_on w_wt w_ht w_bg w_cn w_al w_cl w_ie w_ww w_th w_mm w_bs) sz) t) (va_A (kX4 cB cI mo mb ma w_zf w_nf w_hf w_cf w_sp w_pc w_on w_wt w_ht w_bg w_cn w_al w_cl w_ie w_ww w_th w_mm w_bs) sz)) 0 0 (va_A (kX4 cB cI mo mb ma w_zf w_nf w_hf w_cf w_sp w_pc w_on w_wt w_ht w_bg w_cn w_al w_cl w_ie w_ww w_th w_mm w_bs) sz) := by
  refine Met.ofW (cc := cX4_pop) (maxL := 3) (ret := (some .int)) (by decide) rfl ?_
  intro p e s m args below meth c s₁ B hml hv
  obtain ⟨rfl, hsz, hP, hK, hD0, hT⟩ := hv
  have hx := B.exec
  have hb := B.bytes
  have hr := B.returns
  have hts := atoms_spec (ws := wwX4_pop) B.pre
  have hws : ∀ w ∈ wsL_law, w.before _ s = true := fun w h => hts w (List.mem_cons_of_mem _ h)
  have hown : s.vm.findClass RX4 = some m.cls := findClass_of_methodNamed B.named
  have hlocks := B.notSynchronized
  subst hsz
  have hD := hD0.self (sz := s.heap.size)
  generalize hAe : va_A (kX4 cB cI mo mb ma w_zf w_nf w_hf w_cf w_sp w_pc w_on w_wt w_ht w_bg w_cn w_al w_cl w_ie w_ww w_th w_mm w_bs) s.heap.size = A at hD hT ⊢
  have hA : ∀ q : Nat, s.heap.size ≤ q → A q := fun q h => by rw [← hAe]; exact Or.inr h
  have hS : va_S A s.heap s.heap [] := va_S.rf
  have hl := lv_entry ([.ref mo]) (n := 3) (Nat.le_of_ble_eq_true rfl)
  rw [lg_entry_eq]
  generalize (lg_sl ([.ref mo]) ++ List.replicate (3 - (lg_sl ([.ref mo])).length) Slot.unset).toArray = ls at hl ⊢
  have hl : lv_has ls 3 [(0, .ref mo)] := hl
  generalize hQ : MQ _ _ _ _ _ _ _ = Q
  obtain ⟨H, hHe⟩ : ∃ H : Heap, H = s.heap := ⟨_, rfl⟩
  obtain ⟨locs, hle⟩ : ∃ L : List Loc, L = [] := ⟨_, rfl⟩
  have hP : va_P D vwCl (kX4 cB cI mo mb ma w_zf w_nf w_hf w_cf w_sp w_pc w_on w_wt w_ht w_bg w_cn w_al w_cl w_ie w_ww w_th w_mm w_bs) H := by rw [hHe]; exact hP
  have hS : va_S A s.heap H locs := by rw [hHe, hle]; exact hS
  refine kw_start hHe.symm hle.symm ?_
  have hf : fX4_pop w_sp w_cl w_mm = fX4_pop w_sp w_cl w_mm := rfl
  refine lv_aload_n hx hb dX4_pop_0 rfl (lv_at hl 0 rfl) ?_
  refine lv_aload_n hx hb dX4_pop_1 rfl (lv_at hl 0 rfl) ?_
  refine va_get (D := D) (ci := 4) (v := .int w_sp) (C := RX4) (T := TX4) (N := 18) hx hb hws inlX4 hown hK hP 0 rfl rfl 6 (by decide) (hws _ mw_382) (fun _ h9 => h9) rfl dX4_pop_2 ?_
  refine kc_Vi (wr := []) (As := [.int w_sp]) (rest := []) (fun u9 => (kX4 cB cI mo mb ma w_zf w_nf w_hf w_cf w_sp w_pc w_on w_wt w_ht w_bg w_cn w_al u9 w_ie w_ww w_th w_mm w_bs)) ⟨hx, hb, hml, hown, hws⟩ hK hP hD hS hA hT (c_X4_reads l D cB cI mo mb ma H.size w_zf w_nf w_hf w_cf w_sp w_pc w_on w_wt w_ht w_bg w_cn w_al w_cl w_ie w_ww w_th w_mm w_bs w_sp) (cwV 1 hws (gw_V mw_406 mw_407 mw_408 mw_5 mw_409) rfl rfl rfl hdX4_reads ⟨Nat.le_of_ble_eq_true rfl, Nat.le_of_ble_eq_true rfl⟩) [0, 1, 2] [] [0, 1] [0, 1, 2] rfl rfl rfl rfl (by decide) rfl (fun _ => rfl) rfl 0 rfl rfl rfl rfl hl.1 rfl (Nat.le_of_ble_eq_true rfl) dX4_pop_5 ⟨Nat.zero_le _, Nat.zero_le _⟩ (fun r3 b1 H locs hw2 hP hD hS => ?_)
  have hP : va_P D vwCl (kX4 cB cI mo mb ma w_zf w_nf w_hf w_cf w_sp w_pc w_on w_wt w_ht w_bg w_cn w_al b1 w_ie w_ww w_th w_mm w_bs) H := hP
  have hD : va_D A (kX4 cB cI mo mb ma w_zf w_nf w_hf w_cf w_sp w_pc w_on w_wt w_ht w_bg w_cn w_al b1 w_ie w_ww w_th w_mm w_bs) := hD
  have hf := hf.trans (kE2 hw2)
  refine lv_istore_n (lv' := [(1, .int r3), (0, .ref mo)]) hx hb dX4_pop_8 rfl hl (by decide) rfl (fun ls hl => ?_)
  refine lv_aload_n hx hb dX4_pop_9 rfl (lv_at hl 1 rfl) ?_
  refine lv_aload_n hx hb dX4_pop_10 rfl (lv_at hl 1 rfl) ?_
  refine va_get (D := D) (ci := 4) (v := .int w_sp) (C := RX4) (T := TX4) (N := 18) hx hb hws inlX4 hown hK hP 0 rfl rfl 6 (by decide) (hws _ mw_382) (fun _ h9 => h9) rfl dX4_pop_11 ?_
  refine lv_iconst (v := 1) hx hb dX4_pop_14 (by decide) ?_
  refine lv_iadd hx hb dX4_pop_15 ?_
  refine kc_Vi (wr := []) (As := [.int (w_sp + (1 : Int32))]) (rest := []) (fun u9 => (kX4 cB cI mo mb ma w_zf w_nf w_hf w_cf w_sp w_pc w_on w_wt w_ht w_bg w_cn w_al u9 w_ie w_ww w_th w_mm w_bs)) ⟨hx, hb, hml, hown, hws⟩ hK hP hD hS hA hT (c_X4_reads l D cB cI mo mb ma H.size w_zf w_nf w_hf w_cf w_sp w_pc w_on w_wt w_ht w_bg w_cn w_al b1 w_ie w_ww w_th w_mm w_bs (w_sp + (1 : Int32))) (cwV 1 hws (gw_V mw_406 mw_407 mw_408 mw_5 mw_409) rfl rfl rfl hdX4_reads ⟨Nat.le_of_ble_eq_true rfl, Nat.le_of_ble_eq_true rfl⟩) [0, 1, 2] [] [0, 1] [0, 1, 2] rfl rfl rfl rfl (by decide) rfl (fun _ => rfl) rfl 0 rfl rfl rfl rfl hl.1 rfl (Nat.le_of_ble_eq_true rfl) dX4_pop_16 ⟨Nat.zero_le _, Nat.zero_le _⟩ (fun r6 b4 H locs hw5 hP hD hS => ?_)
  have hP : va_P D vwCl (kX4 cB cI mo mb ma w_zf w_nf w_hf w_cf w_sp w_pc w_on w_wt w_ht w_bg w_cn w_al b4 w_ie w_ww w_th w_mm w_bs) H := hP
  have hD : va_D A (kX4 cB cI mo mb ma w_zf w_nf w_hf w_cf w_sp w_pc w_on w_wt w_ht w_bg w_cn w_al b4 w_ie w_ww w_th w_mm w_bs) := hD
  have hf := hf.trans (kE2 hw5)
  refine lv_istore_n (lv' := [(2, .int r6), (1, .int r3), (0, .ref mo)]) hx hb dX4_pop_19 rfl hl (by decide) rfl (fun ls hl => ?_)
  refine lv_aload_n hx hb dX4_pop_20 rfl (lv_at hl 2 rfl) ?_
  refine lv_aload_n hx hb dX4_pop_21 rfl (lv_at hl 2 rfl) ?_
  refine va_get (D := D) (ci := 4) (v := .int w_sp) (C := RX4) (T := TX4) (N := 18) hx hb hws inlX4 hown hK hP 0 rfl rfl 6 (by decide) (hws _ mw_382) (fun _ h9 => h9) rfl dX4_pop_22 ?_
  refine lv_iconst (v := 2) hx hb dX4_pop_25 (by decide) ?_
  refine lv_iadd hx hb dX4_pop_26 ?_
  refine lv_ldc (v := 65535) hx hb hown (hws _ mw_61) dX4_pop_27 ?_
  refine lv_iand hx hb dX4_pop_29 ?_
  refine lv_topi (fun x7 ex7 => ?_)
  have hf := hf.trans (kE1 ex7)
  refine va_put (D := D) (ci := 4) (v := .int x7) (ty := .int) (C := RX4) (T := TX4) (N := 18) hx hb hws inlX4 tyX4 tyX4_ok nmX4 hown hK hP hD hS 0 rfl rfl 6 (by decide) (hws _ mw_382) (fun _ h9 => h9) rfl (tyX4_ok 6 (by decide)) rfl rfl (Nat.le_of_ble_eq_true rfl) dX4_pop_30 (fun H locs hP hD hS => ?_)
  have hP : va_P D vwCl (kX4 cB cI mo mb ma w_zf w_nf w_hf w_cf x7 w_pc w_on w_wt w_ht w_bg w_cn w_al b4 w_ie w_ww w_th w_mm w_bs) H := hP
  have hD : va_D A (kX4 cB cI mo mb ma w_zf w_nf w_hf w_cf x7 w_pc w_on w_wt w_ht w_bg w_cn w_al b4 w_ie w_ww w_th w_mm w_bs) := hD
  refine lv_iload_n hx hb dX4_pop_33 rfl (lv_at hl 1 rfl) ?_
  refine lv_iload_n hx hb dX4_pop_34 rfl (lv_at hl 0 rfl) ?_
  refine lv_bipush (v := 8) hx hb dX4_pop_35 (by decide) ?_
  refine lv_ishl hx hb dX4_pop_37 ?_
  refine lv_ior hx hb dX4_pop_38 ?_
  rw [← hQ]
  exact W.iret (v := (r3 ||| (r6 <<< ((8 : Int32) &&& (31 : Int32))))) hx hb hr (fun t ht hW => ⟨⟨(r3 ||| (r6 <<< ((8 : Int32) &&& (31 : Int32)))), (x7, b4), rfl, hf.symm, by rw [ht]; exact hP, va_K.moved hW.alike hK, hD⟩, hS.F ht⟩) hS.2.2 dX4_pop_39
def fX4_hl (w_bs : Nat → Int32)  : Int32 := (((w_bs (4 : Int32).toNatClampNeg) <<< ((8 : Int32) &&& (31 : Int32))) ||| (w_bs (5 : Int32).toNatClampNeg))
def rmX4_hl : Room := { frames := 0, cells := 0, slots := 0, locals := 0 }
def wwX4_hl : List Cond := Cond.code yX4_hl cX4_hl 1 (some .int) :: wsL_law
theorem hdX4_hl : yX4_hl.cls = RX4 ∧ yX4_hl.cls ≠ "java/lang/invoke/MethodHandle" ∧ yX4_hl.cls ≠ "java/lang/invoke/VarHandle" ∧ (parseMethodDescriptor yX4_hl.desc).map (fun d => d.parameters.length) = some 0 := by decide +kernel
set_option maxHeartbeats 4000000 in
set_option maxRecDepth 100000 in
theorem c_X4_hl (l : Launch) (D : va_G) (cB : ClassId) (cI : ClassId) (mo mb ma sz : Nat) (w_zf : Bool) (w_nf : Bool) (w_hf : Bool) (w_cf : Bool) (w_sp : Int32) (w_pc : Int32) (w_on : Bool) (w_wt : Bool) (w_ht : Bool) (w_bg : Bool) (w_cn : Int32) (w_al : Int32) (w_cl : Int32) (w_ie : Bool) (w_ww : Bool) (w_th : Int32) (w_mm : Nat → Int32) (w_bs : Nat → Int32)   : Met l yX4_hl wwX4_hl rmX4_hl (va_Pc [.ref mo] (kp D (kX4 cB cI mo mb ma w_zf w_nf w_hf w_cf w_sp w_pc w_on w_wt w_ht w_bg w_cn w_al w_cl w_ie w_ww w_th w_mm w_bs) [(cB, .byte), (cI, .int)] sz)) (va_Qi (fun (r : Int32) (_ : Unit) => r = fX4_hl w_bs) (fun _ t => kq D (kX4 cB cI mo mb ma w_zf w_nf w_hf w_cf w_sp w_pc w_on w_wt w_ht w_bg w_cn w_al w_cl w_ie w_ww w_th w_mm w_bs) [(cB, .byte), (cI, .int)] (va_A (kX4 cB cI mo mb ma w_zf w_nf w_hf w_cf w_sp w_pc w_on w_wt w_ht w_bg w_cn w_al w_cl w_ie w_ww w_th w_mm w_bs) sz) t) (va_A (kX4 cB cI mo mb ma w_zf w_nf w_hf w_cf w_sp w_pc w_on w_wt w_ht w_bg w_cn w_al w_cl w_ie w_ww w_th w_mm w_bs) sz)) 0 0 (va_A (kX4 cB cI mo mb ma w_zf w_nf w_hf w_cf w_sp w_pc w_on w_wt w_ht w_bg w_cn w_al w_cl w_ie w_ww w_th w_mm w_bs) sz) := by
  refine Met.ofW (cc := cX4_hl) (maxL := 1) (ret := (some .int)) (by decide) rfl ?_
  intro p e s m args below meth c s₁ B hml hv
  obtain ⟨rfl, hsz, hP, hK, hD0, hT⟩ := hv
  have hx := B.exec
  have hb := B.bytes
  have hr := B.returns
  have hts := atoms_spec (ws := wwX4_hl) B.pre
  have hws : ∀ w ∈ wsL_law, w.before _ s = true := fun w h => hts w (List.mem_cons_of_mem _ h)
  have hown : s.vm.findClass RX4 = some m.cls := findClass_of_methodNamed B.named
  have hlocks := B.notSynchronized
  subst hsz
  have hD := hD0.self (sz := s.heap.size)
  generalize hAe : va_A (kX4 cB cI mo mb ma w_zf w_nf w_hf w_cf w_sp w_pc w_on w_wt w_ht w_bg w_cn w_al w_cl w_ie w_ww w_th w_mm w_bs) s.heap.size = A at hD hT ⊢
  have hA : ∀ q : Nat, s.heap.size ≤ q → A q := fun q h => by rw [← hAe]; exact Or.inr h
  have hS : va_S A s.heap s.heap [] := va_S.rf
  have hl := lv_entry ([.ref mo]) (n := 1) (Nat.le_of_ble_eq_true rfl)
  rw [lg_entry_eq]
  generalize (lg_sl ([.ref mo]) ++ List.replicate (1 - (lg_sl ([.ref mo])).length) Slot.unset).toArray = ls at hl ⊢
  have hl : lv_has ls 1 [(0, .ref mo)] := hl
  generalize hQ : MQ _ _ _ _ _ _ _ = Q
  obtain ⟨H, hHe⟩ : ∃ H : Heap, H = s.heap := ⟨_, rfl⟩
  obtain ⟨locs, hle⟩ : ∃ L : List Loc, L = [] := ⟨_, rfl⟩
  have hP : va_P D vwCl (kX4 cB cI mo mb ma w_zf w_nf w_hf w_cf w_sp w_pc w_on w_wt w_ht w_bg w_cn w_al w_cl w_ie w_ww w_th w_mm w_bs) H := by rw [hHe]; exact hP
  have hS : va_S A s.heap H locs := by rw [hHe, hle]; exact hS
  refine kw_start hHe.symm hle.symm ?_
  have hf : fX4_hl w_bs = fX4_hl w_bs := rfl
  refine lv_aload_n hx hb dX4_hl_0 rfl (lv_at hl 0 rfl) ?_
  refine va_get (D := D) (ci := 4) (v := .ref ma) (C := RX4) (T := TX4) (N := 18) hx hb hws inlX4 hown hK hP 0 rfl rfl 1 (by decide) (hws _ mw_45) (fun _ h9 => h9) rfl dX4_hl_1 ?_
  refine lv_iconst (v := 4) hx hb dX4_hl_4 (by decide) ?_
  refine va_iald hx hb hK hP 2 1 rfl rfl (by unfold vp_in; decide) dX4_hl_5 ?_
  refine lv_bipush (v := 8) hx hb dX4_hl_6 (by decide) ?_
  refine lv_ishl hx hb dX4_hl_8 ?_
  refine lv_aload_n hx hb dX4_hl_9 rfl (lv_at hl 0 rfl) ?_
  refine va_get (D := D) (ci := 4) (v := .ref ma) (C := RX4) (T := TX4) (N := 18) hx hb hws inlX4 hown hK hP 0 rfl rfl 1 (by decide) (hws _ mw_45) (fun _ h9 => h9) rfl dX4_hl_10 ?_
  refine lv_iconst (v := 5) hx hb dX4_hl_13 (by decide) ?_
  refine va_iald hx hb hK hP 2 1 rfl rfl (by unfold vp_in; decide) dX4_hl_14 ?_
  refine lv_ior hx hb dX4_hl_15 ?_
  rw [← hQ]
  exact W.iret (v := (((w_bs (4 : Int32).toNatClampNeg) <<< ((8 : Int32) &&& (31 : Int32))) ||| (w_bs (5 : Int32).toNatClampNeg))) hx hb hr (fun t ht hW => ⟨⟨(((w_bs (4 : Int32).toNatClampNeg) <<< ((8 : Int32) &&& (31 : Int32))) ||| (w_bs (5 : Int32).toNatClampNeg)), (), rfl, hf.symm, by rw [ht]; exact hP, va_K.moved hW.alike hK, hD⟩, hS.F ht⟩) hS.2.2 dX4_hl_16
def fX4_setPair (w_bs : Nat → Int32) (a1 : Int32) (a2 : Int32) : (Nat → Int32) := (kU1 (upd w_bs ((2 : Int32) * a1).toNatClampNeg ((a2 >>> ((8 : Int32) &&& (31 : Int32))) &&& (255 : Int32))) (fun (f1 : Nat → Int32) => (kU1 (upd f1 (((2 : Int32) * a1) + (1 : Int32)).toNatClampNeg (a2 &&& (255 : Int32))) (fun (f2 : Nat → Int32) => f2))))
def rmX4_setPair : Room := { frames := 0, cells := 0, slots := 0, locals := 0 }
def wwX4_setPair : List Cond := Cond.code yX4_setPair cX4_setPair 3 none :: wsL_law
theorem hdX4_setPair : yX4_setPair.cls = RX4 ∧ yX4_setPair.cls ≠ "java/lang/invoke/MethodHandle" ∧ yX4_setPair.cls ≠ "java/lang/invoke/VarHandle" ∧ (parseMethodDescriptor yX4_setPair.desc).map (fun d => d.parameters.length) = some 2 := by decide +kernel
set_option maxHeartbeats 4000000 in
set_option maxRecDepth 100000 in
theorem c_X4_setPair (l : Launch) (D : va_G) (cB : ClassId) (cI : ClassId) (mo mb ma sz : Nat) (w_zf : Bool) (w_nf : Bool) (w_hf : Bool) (w_cf : Bool) (w_sp : Int32) (w_pc : Int32) (w_on : Bool) (w_wt : Bool) (w_ht : Bool) (w_bg : Bool) (w_cn : Int32) (w_al : Int32) (w_cl : Int32) (w_ie : Bool) (w_ww : Bool) (w_th : Int32) (w_mm : Nat → Int32) (w_bs : Nat → Int32) (a1 : Int32) (a2 : Int32) (hpre1 : vp_in a1 4) : Met l yX4_setPair wwX4_setPair rmX4_setPair (va_Pc [.ref mo, .int a1, .int a2] (kp D (kX4 cB cI mo mb ma w_zf w_nf w_hf w_cf w_sp w_pc w_on w_wt w_ht w_bg w_cn w_al w_cl w_ie w_ww w_th w_mm w_bs) [(cB, .byte), (cI, .int)] sz)) (va_Qv (fun (u9 : (Nat → Int32)) => u9 = fX4_setPair w_bs a1 a2) (fun u9 t => kq D (kX4 cB cI mo mb ma w_zf w_nf w_hf w_cf w_sp w_pc w_on w_wt w_ht w_bg w_cn w_al w_cl w_ie w_ww w_th w_mm u9) [(cB, .byte), (cI, .int)] (va_A (kX4 cB cI mo mb ma w_zf w_nf w_hf w_cf w_sp w_pc w_on w_wt w_ht w_bg w_cn w_al w_cl w_ie w_ww w_th w_mm w_bs) sz) t) (va_A (kX4 cB cI mo mb ma w_zf w_nf w_hf w_cf w_sp w_pc w_on w_wt w_ht w_bg w_cn w_al w_cl w_ie w_ww w_th w_mm w_bs) sz)) 0 0 (va_A (kX4 cB cI mo mb ma w_zf w_nf w_hf w_cf w_sp w_pc w_on w_wt w_ht w_bg w_cn w_al w_cl w_ie w_ww w_th w_mm w_bs) sz) := by
  refine Met.ofW (cc := cX4_setPair) (maxL := 3) (ret := none) (by decide) rfl ?_
  intro p e s m args below meth c s₁ B hml hv
  obtain ⟨rfl, hsz, hP, hK, hD0, hT⟩ := hv
  have hx := B.exec
  have hb := B.bytes
  have hr := B.returns
  have hts := atoms_spec (ws := wwX4_setPair) B.pre
  have hws : ∀ w ∈ wsL_law, w.before _ s = true := fun w h => hts w (List.mem_cons_of_mem _ h)
  have hown : s.vm.findClass RX4 = some m.cls := findClass_of_methodNamed B.named
  have hlocks := B.notSynchronized
  subst hsz
  have hD := hD0.self (sz := s.heap.size)
  generalize hAe : va_A (kX4 cB cI mo mb ma w_zf w_nf w_hf w_cf w_sp w_pc w_on w_wt w_ht w_bg w_cn w_al w_cl w_ie w_ww w_th w_mm w_bs) s.heap.size = A at hD hT ⊢
  have hA : ∀ q : Nat, s.heap.size ≤ q → A q := fun q h => by rw [← hAe]; exact Or.inr h
  have hS : va_S A s.heap s.heap [] := va_S.rf
  have hl := lv_entry ([.ref mo, .int a1, .int a2]) (n := 3) (Nat.le_of_ble_eq_true rfl)
  rw [lg_entry_eq]
  generalize (lg_sl ([.ref mo, .int a1, .int a2]) ++ List.replicate (3 - (lg_sl ([.ref mo, .int a1, .int a2])).length) Slot.unset).toArray = ls at hl ⊢
  have hl : lv_has ls 3 [(0, .ref mo), (1, .int a1), (2, .int a2)] := hl
  generalize hQ : MQ _ _ _ _ _ _ _ = Q
  obtain ⟨H, hHe⟩ : ∃ H : Heap, H = s.heap := ⟨_, rfl⟩
  obtain ⟨locs, hle⟩ : ∃ L : List Loc, L = [] := ⟨_, rfl⟩
  have hP : va_P D vwCl (kX4 cB cI mo mb ma w_zf w_nf w_hf w_cf w_sp w_pc w_on w_wt w_ht w_bg w_cn w_al w_cl w_ie w_ww w_th w_mm w_bs) H := by rw [hHe]; exact hP
  have hS : va_S A s.heap H locs := by rw [hHe, hle]; exact hS
  refine kw_start hHe.symm hle.symm ?_
  have hf : fX4_setPair w_bs a1 a2 = fX4_setPair w_bs a1 a2 := rfl
  refine lv_aload_n hx hb dX4_setPair_0 rfl (lv_at hl 0 rfl) ?_
  refine va_get (D := D) (ci := 4) (v := .ref ma) (C := RX4) (T := TX4) (N := 18) hx hb hws inlX4 hown hK hP 0 rfl rfl 1 (by decide) (hws _ mw_45) (fun _ h9 => h9) rfl dX4_setPair_1 ?_
  refine lv_iconst (v := 2) hx hb dX4_setPair_4 (by decide) ?_
  refine lv_iload_n hx hb dX4_setPair_5 rfl (lv_at hl 1 rfl) ?_
  refine lv_imul hx hb dX4_setPair_6 ?_
  refine lv_iload_n hx hb dX4_setPair_7 rfl (lv_at hl 2 rfl) ?_
  refine lv_bipush (v := 8) hx hb dX4_setPair_8 (by decide) ?_
  refine lv_ishr hx hb dX4_setPair_10 ?_
  refine lv_sipush (v := 255) hx hb dX4_setPair_11 (by decide) ?_
  refine lv_iand hx hb dX4_setPair_14 ?_
  refine va_iast hx hb hK hP hD hS 2 1 rfl rfl (ki_2p hpre1) dX4_setPair_15 (fun H locs hP hD hS => ?_)
  obtain ⟨f1, ef1⟩ : ∃ f9 : Nat → Int32, f9 = upd w_bs ((2 : Int32) * a1).toNatClampNeg ((a2 >>> ((8 : Int32) &&& (31 : Int32))) &&& (255 : Int32)) := ⟨_, rfl⟩
  have hf := hf.trans (kE1 ef1)
  have hP : va_P D vwCl (kX4 cB cI mo mb ma w_zf w_nf w_hf w_cf w_sp w_pc w_on w_wt w_ht w_bg w_cn w_al w_cl w_ie w_ww w_th w_mm f1) H := by rw [ef1]; exact hP
  have hD : va_D A (kX4 cB cI mo mb ma w_zf w_nf w_hf w_cf w_sp w_pc w_on w_wt w_ht w_bg w_cn w_al w_cl w_ie w_ww w_th w_mm f1) := by rw [ef1]; exact hD
  refine lv_aload_n hx hb dX4_setPair_16 rfl (lv_at hl 0 rfl) ?_
  refine va_get (D := D) (ci := 4) (v := .ref ma) (C := RX4) (T := TX4) (N := 18) hx hb hws inlX4 hown hK hP 0 rfl rfl 1 (by decide) (hws _ mw_45) (fun _ h9 => h9) rfl dX4_setPair_17 ?_
  refine lv_iconst (v := 2) hx hb dX4_setPair_20 (by decide) ?_
  refine lv_iload_n hx hb dX4_setPair_21 rfl (lv_at hl 1 rfl) ?_
  refine lv_imul hx hb dX4_setPair_22 ?_
  refine lv_iconst (v := 1) hx hb dX4_setPair_23 (by decide) ?_
  refine lv_iadd hx hb dX4_setPair_24 ?_
  refine lv_iload_n hx hb dX4_setPair_25 rfl (lv_at hl 2 rfl) ?_
  refine lv_sipush (v := 255) hx hb dX4_setPair_26 (by decide) ?_
  refine lv_iand hx hb dX4_setPair_29 ?_
  refine va_iast hx hb hK hP hD hS 2 1 rfl rfl (ki_2p1 hpre1) dX4_setPair_30 (fun H locs hP hD hS => ?_)
  obtain ⟨f2, ef2⟩ : ∃ f9 : Nat → Int32, f9 = upd f1 (((2 : Int32) * a1) + (1 : Int32)).toNatClampNeg (a2 &&& (255 : Int32)) := ⟨_, rfl⟩
  have hf := hf.trans (kE1 ef2)
  have hP : va_P D vwCl (kX4 cB cI mo mb ma w_zf w_nf w_hf w_cf w_sp w_pc w_on w_wt w_ht w_bg w_cn w_al w_cl w_ie w_ww w_th w_mm f2) H := by rw [ef2]; exact hP
  have hD : va_D A (kX4 cB cI mo mb ma w_zf w_nf w_hf w_cf w_sp w_pc w_on w_wt w_ht w_bg w_cn w_al w_cl w_ie w_ww w_th w_mm f2) := by rw [ef2]; exact hD
  rw [← hQ]
  exact W.vret hx hb hr (fun t ht hW => ⟨⟨f2, rfl, hf.symm, by rw [ht]; exact hP, va_K.moved hW.alike hK, hD⟩, hS.F ht⟩) hS.2.2 dX4_setPair_31
def fX4_pair (w_bs : Nat → Int32) (a1 : Int32) : Int32 := (((w_bs ((2 : Int32) * a1).toNatClampNeg) <<< ((8 : Int32) &&& (31 : Int32))) ||| (w_bs (((2 : Int32) * a1) + (1 : Int32)).toNatClampNeg))
def rmX4_pair : Room := { frames := 0, cells := 0, slots := 0, locals := 0 }
def wwX4_pair : List Cond := Cond.code yX4_pair cX4_pair 2 (some .int) :: wsL_law
theorem hdX4_pair : yX4_pair.cls = RX4 ∧ yX4_pair.cls ≠ "java/lang/invoke/MethodHandle" ∧ yX4_pair.cls ≠ "java/lang/invoke/VarHandle" ∧ (parseMethodDescriptor yX4_pair.desc).map (fun d => d.parameters.length) = some 1 := by decide +kernel
set_option maxHeartbeats 4000000 in
set_option maxRecDepth 100000 in
theorem c_X4_pair (l : Launch) (D : va_G) (cB : ClassId) (cI : ClassId) (mo mb ma sz : Nat) (w_zf : Bool) (w_nf : Bool) (w_hf : Bool) (w_cf : Bool) (w_sp : Int32) (w_pc : Int32) (w_on : Bool) (w_wt : Bool) (w_ht : Bool) (w_bg : Bool) (w_cn : Int32) (w_al : Int32) (w_cl : Int32) (w_ie : Bool) (w_ww : Bool) (w_th : Int32) (w_mm : Nat → Int32) (w_bs : Nat → Int32) (a1 : Int32) (hpre1 : vp_in a1 4) : Met l yX4_pair wwX4_pair rmX4_pair (va_Pc [.ref mo, .int a1] (kp D (kX4 cB cI mo mb ma w_zf w_nf w_hf w_cf w_sp w_pc w_on w_wt w_ht w_bg w_cn w_al w_cl w_ie w_ww w_th w_mm w_bs) [(cB, .byte), (cI, .int)] sz)) (va_Qi (fun (r : Int32) (_ : Unit) => r = fX4_pair w_bs a1) (fun _ t => kq D (kX4 cB cI mo mb ma w_zf w_nf w_hf w_cf w_sp w_pc w_on w_wt w_ht w_bg w_cn w_al w_cl w_ie w_ww w_th w_mm w_bs) [(cB, .byte), (cI, .int)] (va_A (kX4 cB cI mo mb ma w_zf w_nf w_hf w_cf w_sp w_pc w_on w_wt w_ht w_bg w_cn w_al w_cl w_ie w_ww w_th w_mm w_bs) sz) t) (va_A (kX4 cB cI mo mb ma w_zf w_nf w_hf w_cf w_sp w_pc w_on w_wt w_ht w_bg w_cn w_al w_cl w_ie w_ww w_th w_mm w_bs) sz)) 0 0 (va_A (kX4 cB cI mo mb ma w_zf w_nf w_hf w_cf w_sp w_pc w_on w_wt w_ht w_bg w_cn w_al w_cl w_ie w_ww w_th w_mm w_bs) sz) := by
  refine Met.ofW (cc := cX4_pair) (maxL := 2) (ret := (some .int)) (by decide) rfl ?_
  intro p e s m args below meth c s₁ B hml hv
  obtain ⟨rfl, hsz, hP, hK, hD0, hT⟩ := hv
  have hx := B.exec
  have hb := B.bytes
  have hr := B.returns
  have hts := atoms_spec (ws := wwX4_pair) B.pre
  have hws : ∀ w ∈ wsL_law, w.before _ s = true := fun w h => hts w (List.mem_cons_of_mem _ h)
  have hown : s.vm.findClass RX4 = some m.cls := findClass_of_methodNamed B.named
  have hlocks := B.notSynchronized
  subst hsz
  have hD := hD0.self (sz := s.heap.size)
  generalize hAe : va_A (kX4 cB cI mo mb ma w_zf w_nf w_hf w_cf w_sp w_pc w_on w_wt w_ht w_bg w_cn w_al w_cl w_ie w_ww w_th w_mm w_bs) s.heap.size = A at hD hT ⊢
  have hA : ∀ q : Nat, s.heap.size ≤ q → A q := fun q h => by rw [← hAe]; exact Or.inr h
  have hS : va_S A s.heap s.heap [] := va_S.rf
  have hl := lv_entry ([.ref mo, .int a1]) (n := 2) (Nat.le_of_ble_eq_true rfl)
  rw [lg_entry_eq]
  generalize (lg_sl ([.ref mo, .int a1]) ++ List.replicate (2 - (lg_sl ([.ref mo, .int a1])).length) Slot.unset).toArray = ls at hl ⊢
  have hl : lv_has ls 2 [(0, .ref mo), (1, .int a1)] := hl
  generalize hQ : MQ _ _ _ _ _ _ _ = Q
  obtain ⟨H, hHe⟩ : ∃ H : Heap, H = s.heap := ⟨_, rfl⟩
  obtain ⟨locs, hle⟩ : ∃ L : List Loc, L = [] := ⟨_, rfl⟩
  have hP : va_P D vwCl (kX4 cB cI mo mb ma w_zf w_nf w_hf w_cf w_sp w_pc w_on w_wt w_ht w_bg w_cn w_al w_cl w_ie w_ww w_th w_mm w_bs) H := by rw [hHe]; exact hP
  have hS : va_S A s.heap H locs := by rw [hHe, hle]; exact hS
  refine kw_start hHe.symm hle.symm ?_
  have hf : fX4_pair w_bs a1 = fX4_pair w_bs a1 := rfl
  refine lv_aload_n hx hb dX4_pair_0 rfl (lv_at hl 0 rfl) ?_
  refine va_get (D := D) (ci := 4) (v := .ref ma) (C := RX4) (T := TX4) (N := 18) hx hb hws inlX4 hown hK hP 0 rfl rfl 1 (by decide) (hws _ mw_45) (fun _ h9 => h9) rfl dX4_pair_1 ?_
  refine lv_iconst (v := 2) hx hb dX4_pair_4 (by decide) ?_
  refine lv_iload_n hx hb dX4_pair_5 rfl (lv_at hl 1 rfl) ?_
  refine lv_imul hx hb dX4_pair_6 ?_
  refine va_iald hx hb hK hP 2 1 rfl rfl (ki_2p hpre1) dX4_pair_7 ?_
  refine lv_bipush (v := 8) hx hb dX4_pair_8 (by decide) ?_
  refine lv_ishl hx hb dX4_pair_10 ?_
  refine lv_aload_n hx hb dX4_pair_11 rfl (lv_at hl 0 rfl) ?_
  refine va_get (D := D) (ci := 4) (v := .ref ma) (C := RX4) (T := TX4) (N := 18) hx hb hws inlX4 hown hK hP 0 rfl rfl 1 (by decide) (hws _ mw_45) (fun _ h9 => h9) rfl dX4_pair_12 ?_
  refine lv_iconst (v := 2) hx hb dX4_pair_15 (by decide) ?_
  refine lv_iload_n hx hb dX4_pair_16 rfl (lv_at hl 1 rfl) ?_
  refine lv_imul hx hb dX4_pair_17 ?_
  refine lv_iconst (v := 1) hx hb dX4_pair_18 (by decide) ?_
  refine lv_iadd hx hb dX4_pair_19 ?_
  refine va_iald hx hb hK hP 2 1 rfl rfl (ki_2p1 hpre1) dX4_pair_20 ?_
  refine lv_ior hx hb dX4_pair_21 ?_
  rw [← hQ]
  exact W.iret (v := (((w_bs ((2 : Int32) * a1).toNatClampNeg) <<< ((8 : Int32) &&& (31 : Int32))) ||| (w_bs (((2 : Int32) * a1) + (1 : Int32)).toNatClampNeg))) hx hb hr (fun t ht hW => ⟨⟨(((w_bs ((2 : Int32) * a1).toNatClampNeg) <<< ((8 : Int32) &&& (31 : Int32))) ||| (w_bs (((2 : Int32) * a1) + (1 : Int32)).toNatClampNeg)), (), rfl, hf.symm, by rw [ht]; exact hP, va_K.moved hW.alike hK, hD⟩, hS.F ht⟩) hS.2.2 dX4_pair_22
def fX4_flags (w_zf : Bool) (w_nf : Bool) (w_hf : Bool) (w_cf : Bool)  : Int32 := (kU1 (((kIf (kEq (bI w_zf) (0 : Int32)) (0 : Int32) (128 : Int32)) : Int32)) (fun (x2 : Int32) => (kU1 (((kIf (kEq (bI w_nf) (0 : Int32)) (0 : Int32) (64 : Int32)) : Int32)) (fun (x5 : Int32) => (kU1 (((kIf (kEq (bI w_hf) (0 : Int32)) (0 : Int32) (32 : Int32)) : Int32)) (fun (x8 : Int32) => (kU1 (((kIf (kEq (bI w_cf) (0 : Int32)) (0 : Int32) (16 : Int32)) : Int32)) (fun (x11 : Int32) => (((x2 ||| x5) ||| x8) ||| x11)))))))))
def rmX4_flags : Room := { frames := 0, cells := 0, slots := 0, locals := 0 }
def wwX4_flags : List Cond := Cond.code yX4_flags cX4_flags 1 (some .int) :: wsL_law
theorem hdX4_flags : yX4_flags.cls = RX4 ∧ yX4_flags.cls ≠ "java/lang/invoke/MethodHandle" ∧ yX4_flags.cls ≠ "java/lang/invoke/VarHandle" ∧ (parseMethodDescriptor yX4_flags.desc).map (fun d => d.parameters.length) = some 0 := by decide +kernel
set_option maxHeartbeats 4000000 in
set_option maxRecDepth 100000 in
theorem c_X4_flags (l : Launch) (D : va_G) (cB : ClassId) (cI : ClassId) (mo mb ma sz : Nat) (w_zf : Bool) (w_nf : Bool) (w_hf : Bool) (w_cf : Bool) (w_sp : Int32) (w_pc : Int32) (w_on : Bool) (w_wt : Bool) (w_ht : Bool) (w_bg : Bool) (w_cn : Int32) (w_al : Int32) (w_cl : Int32) (w_ie : Bool) (w_ww : Bool) (w_th : Int32) (w_mm : Nat → Int32) (w_bs : Nat → Int32)   : Met l yX4_flags wwX4_flags rmX4_flags (va_Pc [.ref mo] (kp D (kX4 cB cI mo mb ma w_zf w_nf w_hf w_cf w_sp w_pc w_on w_wt w_ht w_bg w_cn w_al w_cl w_ie w_ww w_th w_mm w_bs) [(cB, .byte), (cI, .int)] sz)) (va_Qi (fun (r : Int32) (_ : Unit) => r = fX4_flags w_zf w_nf w_hf w_cf) (fun _ t => kq D (kX4 cB cI mo mb ma w_zf w_nf w_hf w_cf w_sp w_pc w_on w_wt w_ht w_bg w_cn w_al w_cl w_ie w_ww w_th w_mm w_bs) [(cB, .byte), (cI, .int)] (va_A (kX4 cB cI mo mb ma w_zf w_nf w_hf w_cf w_sp w_pc w_on w_wt w_ht w_bg w_cn w_al w_cl w_ie w_ww w_th w_mm w_bs) sz) t) (va_A (kX4 cB cI mo mb ma w_zf w_nf w_hf w_cf w_sp w_pc w_on w_wt w_ht w_bg w_cn w_al w_cl w_ie w_ww w_th w_mm w_bs) sz)) 0 0 (va_A (kX4 cB cI mo mb ma w_zf w_nf w_hf w_cf w_sp w_pc w_on w_wt w_ht w_bg w_cn w_al w_cl w_ie w_ww w_th w_mm w_bs) sz) := by
  refine Met.ofW (cc := cX4_flags) (maxL := 1) (ret := (some .int)) (by decide) rfl ?_
  intro p e s m args below meth c s₁ B hml hv
  obtain ⟨rfl, hsz, hP, hK, hD0, hT⟩ := hv
  have hx := B.exec
  have hb := B.bytes
  have hr := B.returns
  have hts := atoms_spec (ws := wwX4_flags) B.pre
  have hws : ∀ w ∈ wsL_law, w.before _ s = true := fun w h => hts w (List.mem_cons_of_mem _ h)
  have hown : s.vm.findClass RX4 = some m.cls := findClass_of_methodNamed B.named
  have hlocks := B.notSynchronized
  subst hsz
  have hD := hD0.self (sz := s.heap.size)
  generalize hAe : va_A (kX4 cB cI mo mb ma w_zf w_nf w_hf w_cf w_sp w_pc w_on w_wt w_ht w_bg w_cn w_al w_cl w_ie w_ww w_th w_mm w_bs) s.heap.size = A at hD hT ⊢
  have hA : ∀ q : Nat, s.heap.size ≤ q → A q := fun q h => by rw [← hAe]; exact Or.inr h
  have hS : va_S A s.heap s.heap [] := va_S.rf
  have hl := lv_entry ([.ref mo]) (n := 1) (Nat.le_of_ble_eq_true rfl)
  rw [lg_entry_eq]
  generalize (lg_sl ([.ref mo]) ++ List.replicate (1 - (lg_sl ([.ref mo])).length) Slot.unset).toArray = ls at hl ⊢
  have hl : lv_has ls 1 [(0, .ref mo)] := hl
  generalize hQ : MQ _ _ _ _ _ _ _ = Q
  obtain ⟨H, hHe⟩ : ∃ H : Heap, H = s.heap := ⟨_, rfl⟩
  obtain ⟨locs, hle⟩ : ∃ L : List Loc, L = [] := ⟨_, rfl⟩
  have hP : va_P D vwCl (kX4 cB cI mo mb ma w_zf w_nf w_hf w_cf w_sp w_pc w_on w_wt w_ht w_bg w_cn w_al w_cl w_ie w_ww w_th w_mm w_bs) H := by rw [hHe]; exact hP
  have hS : va_S A s.heap H locs := by rw [hHe, hle]; exact hS
  refine kw_start hHe.symm hle.symm ?_
  have hf : fX4_flags w_zf w_nf w_hf w_cf = fX4_flags w_zf w_nf w_hf w_cf := rfl
  refine lv_aload_n hx hb dX4_flags_0 rfl (lv_at hl 0 rfl) ?_
  refine va_get (D := D) (ci := 4) (v := .int (bI w_zf)) (C := RX4) (T := TX4) (N := 18) hx hb hws inlX4 hown hK hP 0 rfl rfl 2 (by decide) (hws _ mw_430) (fun _ h9 => h9) rfl dX4_flags_1 ?_
  obtain ⟨TJ3, hTJ3⟩ : ∃ T9 : Int32, T9 = (kIf (kEq (bI w_zf) (0 : Int32)) (0 : Int32) (128 : Int32)) := ⟨_, rfl⟩
  have J3 : ∀ (x2 : Int32), x2 = TJ3 → ∀ (H : Heap) (locs : List Loc) (ls : Array Slot), lv_has ls 1 [(0, .ref mo)] → va_P D vwCl (kX4 cB cI mo mb ma w_zf w_nf w_hf w_cf w_sp w_pc w_on w_wt w_ht w_bg w_cn w_al w_cl w_ie w_ww w_th w_mm w_bs) H → va_D A (kX4 cB cI mo mb ma w_zf w_nf w_hf w_cf w_sp w_pc w_on w_wt w_ht w_bg w_cn w_al w_cl w_ie w_ww w_th w_mm w_bs) → va_S A s.heap H locs → W p l e (headSpec wwX4_flags rmX4_flags).room s m ([.ref mo] : List Value).toArray below meth c H locs 0 0 Q (F0 m 14 ls [.int x2]) := by
    intro x2 eJ3 H locs ls hl hP hD hS
    have hf := hf.trans (kE1 (eJ3.trans hTJ3))
    refine lv_aload_n hx hb dX4_flags_14 rfl (lv_at hl 0 rfl) ?_
    refine va_get (D := D) (ci := 4) (v := .int (bI w_nf)) (C := RX4) (T := TX4) (N := 18) hx hb hws inlX4 hown hK hP 0 rfl rfl 3 (by decide) (hws _ mw_452) (fun _ h9 => h9) rfl dX4_flags_15 ?_
    obtain ⟨TJ6, hTJ6⟩ : ∃ T9 : Int32, T9 = (kIf (kEq (bI w_nf) (0 : Int32)) (0 : Int32) (64 : Int32)) := ⟨_, rfl⟩
    have J6 : ∀ (x5 : Int32), x5 = TJ6 → ∀ (H : Heap) (locs : List Loc) (ls : Array Slot), lv_has ls 1 [(0, .ref mo)] → va_P D vwCl (kX4 cB cI mo mb ma w_zf w_nf w_hf w_cf w_sp w_pc w_on w_wt w_ht w_bg w_cn w_al w_cl w_ie w_ww w_th w_mm w_bs) H → va_D A (kX4 cB cI mo mb ma w_zf w_nf w_hf w_cf w_sp w_pc w_on w_wt w_ht w_bg w_cn w_al w_cl w_ie w_ww w_th w_mm w_bs) → va_S A s.heap H locs → W p l e (headSpec wwX4_flags rmX4_flags).room s m ([.ref mo] : List Value).toArray below meth c H locs 0 0 Q (F0 m 27 ls [.int x5, .int x2]) := by
      intro x5 eJ6 H locs ls hl hP hD hS
      have hf := hf.trans (kE1 (eJ6.trans hTJ6))
      refine lv_ior hx hb dX4_flags_27 ?_
      refine lv_aload_n hx hb dX4_flags_28 rfl (lv_at hl 0 rfl) ?_
      refine va_get (D := D) (ci := 4) (v := .int (bI w_hf)) (C := RX4) (T := TX4) (N := 18) hx hb hws inlX4 hown hK hP 0 rfl rfl 4 (by decide) (hws _ mw_453) (fun _ h9 => h9) rfl dX4_flags_29 ?_
      obtain ⟨TJ9, hTJ9⟩ : ∃ T9 : Int32, T9 = (kIf (kEq (bI w_hf) (0 : Int32)) (0 : Int32) (32 : Int32)) := ⟨_, rfl⟩
      have J9 : ∀ (x8 : Int32), x8 = TJ9 → ∀ (H : Heap) (locs : List Loc) (ls : Array Slot), lv_has ls 1 [(0, .ref mo)] → va_P D vwCl (kX4 cB cI mo mb ma w_zf w_nf w_hf w_cf w_sp w_pc w_on w_wt w_ht w_bg w_cn w_al w_cl w_ie w_ww w_th w_mm w_bs) H → va_D A (kX4 cB cI mo mb ma w_zf w_nf w_hf w_cf w_sp w_pc w_on w_wt w_ht w_bg w_cn w_al w_cl w_ie w_ww w_th w_mm w_bs) → va_S A s.heap H locs → W p l e (headSpec wwX4_flags rmX4_flags).room s m ([.ref mo] : List Value).toArray below meth c H locs 0 0 Q (F0 m 41 ls [.int x8, .int (x2 ||| x5)]) := by
        intro x8 eJ9 H locs ls hl hP hD hS
        have hf := hf.trans (kE1 (eJ9.trans hTJ9))
        refine lv_ior hx hb dX4_flags_41 ?_
        refine lv_aload_n hx hb dX4_flags_42 rfl (lv_at hl 0 rfl) ?_
        refine va_get (D := D) (ci := 4) (v := .int (bI w_cf)) (C := RX4) (T := TX4) (N := 18) hx hb hws inlX4 hown hK hP 0 rfl rfl 5 (by decide) (hws _ mw_431) (fun _ h9 => h9) rfl dX4_flags_43 ?_
        obtain ⟨TJ12, hTJ12⟩ : ∃ T9 : Int32, T9 = (kIf (kEq (bI w_cf) (0 : Int32)) (0 : Int32) (16 : Int32)) := ⟨_, rfl⟩
        have J12 : ∀ (x11 : Int32), x11 = TJ12 → ∀ (H : Heap) (locs : List Loc) (ls : Array Slot), lv_has ls 1 [(0, .ref mo)] → va_P D vwCl (kX4 cB cI mo mb ma w_zf w_nf w_hf w_cf w_sp w_pc w_on w_wt w_ht w_bg w_cn w_al w_cl w_ie w_ww w_th w_mm w_bs) H → va_D A (kX4 cB cI mo mb ma w_zf w_nf w_hf w_cf w_sp w_pc w_on w_wt w_ht w_bg w_cn w_al w_cl w_ie w_ww w_th w_mm w_bs) → va_S A s.heap H locs → W p l e (headSpec wwX4_flags rmX4_flags).room s m ([.ref mo] : List Value).toArray below meth c H locs 0 0 Q (F0 m 55 ls [.int x11, .int ((x2 ||| x5) ||| x8)]) := by
          intro x11 eJ12 H locs ls hl hP hD hS
          have hf := hf.trans (kE1 (eJ12.trans hTJ12))
          refine lv_ior hx hb dX4_flags_55 ?_
          rw [← hQ]
          exact W.iret (v := (((x2 ||| x5) ||| x8) ||| x11)) hx hb hr (fun t ht hW => ⟨⟨(((x2 ||| x5) ||| x8) ||| x11), (), rfl, hf.symm, by rw [ht]; exact hP, va_K.moved hW.alike hK, hD⟩, hS.F ht⟩) hS.2.2 dX4_flags_56
        have hf := hTJ12
        refine lv_if_eq (tgt := 54) hx hb dX4_flags_46 (by decide) (fun c10 => ?_) (fun c10 => ?_)
        · have hf := hf.trans (kt_eq c10)
          refine lv_iconst (v := 0) hx hb dX4_flags_54 (by decide) ?_
          exact J12 (0 : Int32) hf.symm H locs ls (lv_sub hl [0] rfl) hP hD hS
        · have hf := hf.trans (kf_eq c10)
          refine lv_bipush (v := 16) hx hb dX4_flags_49 (by decide) ?_
          refine lv_goto (tgt := 55) hx hb dX4_flags_51 (by decide) ?_
          exact J12 (16 : Int32) hf.symm H locs ls (lv_sub hl [0] rfl) hP hD hS
      have hf := hTJ9
      refine lv_if_eq (tgt := 40) hx hb dX4_flags_32 (by decide) (fun c7 => ?_) (fun c7 => ?_)
      · have hf := hf.trans (kt_eq c7)
        refine lv_iconst (v := 0) hx hb dX4_flags_40 (by decide) ?_
        exact J9 (0 : Int32) hf.symm H locs ls (lv_sub hl [0] rfl) hP hD hS
      · have hf := hf.trans (kf_eq c7)
        refine lv_bipush (v := 32) hx hb dX4_flags_35 (by decide) ?_
        refine lv_goto (tgt := 41) hx hb dX4_flags_37 (by decide) ?_
        exact J9 (32 : Int32) hf.symm H locs ls (lv_sub hl [0] rfl) hP hD hS
    have hf := hTJ6
    refine lv_if_eq (tgt := 26) hx hb dX4_flags_18 (by decide) (fun c4 => ?_) (fun c4 => ?_)
    · have hf := hf.trans (kt_eq c4)
      refine lv_iconst (v := 0) hx hb dX4_flags_26 (by decide) ?_
      exact J6 (0 : Int32) hf.symm H locs ls (lv_sub hl [0] rfl) hP hD hS
    · have hf := hf.trans (kf_eq c4)
      refine lv_bipush (v := 64) hx hb dX4_flags_21 (by decide) ?_
      refine lv_goto (tgt := 27) hx hb dX4_flags_23 (by decide) ?_
      exact J6 (64 : Int32) hf.symm H locs ls (lv_sub hl [0] rfl) hP hD hS
  have hf := hTJ3
  refine lv_if_eq (tgt := 13) hx hb dX4_flags_4 (by decide) (fun c1 => ?_) (fun c1 => ?_)
  · have hf := hf.trans (kt_eq c1)
    refine lv_iconst (v := 0) hx hb dX4_flags_13 (by decide) ?_
    exact J3 (0 : Int32) hf.symm H locs ls (lv_sub hl [0] rfl) hP hD hS
  · have hf := hf.trans (kf_eq c1)
    refine lv_sipush (v := 128) hx hb dX4_flags_7 (by decide) ?_
    refine lv_goto (tgt := 14) hx hb dX4_flags_10 (by decide) ?_
    exact J3 (128 : Int32) hf.symm H locs ls (lv_sub hl [0] rfl) hP hD hS
def fX4_setFlags (w_zf : Bool) (w_nf : Bool) (w_hf : Bool) (w_cf : Bool) (a1 : Int32) : Bool × Bool × Bool × Bool := (kU1 (((kIf (kEq (a1 &&& (128 : Int32)) (0 : Int32)) false true) : Bool)) (fun (z2 : Bool) => (kU1 (((kIf (kEq (a1 &&& (64 : Int32)) (0 : Int32)) false true) : Bool)) (fun (z5 : Bool) => (kU1 (((kIf (kEq (a1 &&& (32 : Int32)) (0 : Int32)) false true) : Bool)) (fun (z8 : Bool) => (kU1 (((kIf (kEq (a1 &&& (16 : Int32)) (0 : Int32)) false true) : Bool)) (fun (z11 : Bool) => (z2, z5, z8, z11)))))))))
def rmX4_setFlags : Room := { frames := 0, cells := 0, slots := 0, locals := 0 }
def wwX4_setFlags : List Cond := Cond.code yX4_setFlags cX4_setFlags 2 none :: wsL_law
theorem hdX4_setFlags : yX4_setFlags.cls = RX4 ∧ yX4_setFlags.cls ≠ "java/lang/invoke/MethodHandle" ∧ yX4_setFlags.cls ≠ "java/lang/invoke/VarHandle" ∧ (parseMethodDescriptor yX4_setFlags.desc).map (fun d => d.parameters.length) = some 1 := by decide +kernel
set_option maxHeartbeats 4000000 in
set_option maxRecDepth 100000 in
theorem c_X4_setFlags (l : Launch) (D : va_G) (cB : ClassId) (cI : ClassId) (mo mb ma sz : Nat) (w_zf : Bool) (w_nf : Bool) (w_hf : Bool) (w_cf : Bool) (w_sp : Int32) (w_pc : Int32) (w_on : Bool) (w_wt : Bool) (w_ht : Bool) (w_bg : Bool) (w_cn : Int32) (w_al : Int32) (w_cl : Int32) (w_ie : Bool) (w_ww : Bool) (w_th : Int32) (w_mm : Nat → Int32) (w_bs : Nat → Int32) (a1 : Int32)  : Met l yX4_setFlags wwX4_setFlags rmX4_setFlags (va_Pc [.ref mo, .int a1] (kp D (kX4 cB cI mo mb ma w_zf w_nf w_hf w_cf w_sp w_pc w_on w_wt w_ht w_bg w_cn w_al w_cl w_ie w_ww w_th w_mm w_bs) [(cB, .byte), (cI, .int)] sz)) (va_Qv (fun (u9 : Bool × Bool × Bool × Bool) => u9 = fX4_setFlags w_zf w_nf w_hf w_cf a1) (fun u9 t => kq D (kX4 cB cI mo mb ma (u9.1) (u9.2.1) (u9.2.2.1) (u9.2.2.2) w_sp w_pc w_on w_wt w_ht w_bg w_cn w_al w_cl w_ie w_ww w_th w_mm w_bs) [(cB, .byte), (cI, .int)] (va_A (kX4 cB cI mo mb ma w_zf w_nf w_hf w_cf w_sp w_pc w_on w_wt w_ht w_bg w_cn w_al w_cl w_ie w_ww w_th w_mm w_bs) sz) t) (va_A (kX4 cB cI mo mb ma w_zf w_nf w_hf w_cf w_sp w_pc w_on w_wt w_ht w_bg w_cn w_al w_cl w_ie w_ww w_th w_mm w_bs) sz)) 0 0 (va_A (kX4 cB cI mo mb ma w_zf w_nf w_hf w_cf w_sp w_pc w_on w_wt w_ht w_bg w_cn w_al w_cl w_ie w_ww w_th w_mm w_bs) sz) := by
  refine Met.ofW (cc := cX4_setFlags) (maxL := 2) (ret := none) (by decide) rfl ?_
  intro p e s m args below meth c s₁ B hml hv
  obtain ⟨rfl, hsz, hP, hK, hD0, hT⟩ := hv
  have hx := B.exec
  have hb := B.bytes
  have hr := B.returns
  have hts := atoms_spec (ws := wwX4_setFlags) B.pre
  have hws : ∀ w ∈ wsL_law, w.before _ s = true := fun w h => hts w (List.mem_cons_of_mem _ h)
  have hown : s.vm.findClass RX4 = some m.cls := findClass_of_methodNamed B.named
  have hlocks := B.notSynchronized
  subst hsz
  have hD := hD0.self (sz := s.heap.size)
  generalize hAe : va_A (kX4 cB cI mo mb ma w_zf w_nf w_hf w_cf w_sp w_pc w_on w_wt w_ht w_bg w_cn w_al w_cl w_ie w_ww w_th w_mm w_bs) s.heap.size = A at hD hT ⊢
  have hA : ∀ q : Nat, s.heap.size ≤ q → A q := fun q h => by rw [← hAe]; exact Or.inr h
  have hS : va_S A s.heap s.heap [] := va_S.rf
  have hl := lv_entry ([.ref mo, .int a1]) (n := 2) (Nat.le_of_ble_eq_true rfl)
  rw [lg_entry_eq]
  generalize (lg_sl ([.ref mo, .int a1]) ++ List.replicate (2 - (lg_sl ([.ref mo, .int a1])).length) Slot.unset).toArray = ls at hl ⊢
  have hl : lv_has ls 2 [(0, .ref mo), (1, .int a1)] := hl
  generalize hQ : MQ _ _ _ _ _ _ _ = Q
  obtain ⟨H, hHe⟩ : ∃ H : Heap, H = s.heap := ⟨_, rfl⟩
  obtain ⟨locs, hle⟩ : ∃ L : List Loc, L = [] := ⟨_, rfl⟩
  have hP : va_P D vwCl (kX4 cB cI mo mb ma w_zf w_nf w_hf w_cf w_sp w_pc w_on w_wt w_ht w_bg w_cn w_al w_cl w_ie w_ww w_th w_mm w_bs) H := by rw [hHe]; exact hP
  have hS : va_S A s.heap H locs := by rw [hHe, hle]; exact hS
  refine kw_start hHe.symm hle.symm ?_
  have hf : fX4_setFlags w_zf w_nf w_hf w_cf a1 = fX4_setFlags w_zf w_nf w_hf w_cf a1 := rfl
  refine lv_aload_n hx hb dX4_setFlags_0 rfl (lv_at hl 0 rfl) ?_
  refine lv_iload_n hx hb dX4_setFlags_1 rfl (lv_at hl 1 rfl) ?_
  refine lv_sipush (v := 128) hx hb dX4_setFlags_2 (by decide) ?_
  refine lv_iand hx hb dX4_setFlags_5 ?_
  obtain ⟨TJ3, hTJ3⟩ : ∃ T9 : Bool, T9 = (kIf (kEq (a1 &&& (128 : Int32)) (0 : Int32)) false true) := ⟨_, rfl⟩
  have J3 : ∀ (z2 : Bool), z2 = TJ3 → ∀ (H : Heap) (locs : List Loc) (ls : Array Slot), lv_has ls 2 [(0, .ref mo), (1, .int a1)] → va_P D vwCl (kX4 cB cI mo mb ma w_zf w_nf w_hf w_cf w_sp w_pc w_on w_wt w_ht w_bg w_cn w_al w_cl w_ie w_ww w_th w_mm w_bs) H → va_D A (kX4 cB cI mo mb ma w_zf w_nf w_hf w_cf w_sp w_pc w_on w_wt w_ht w_bg w_cn w_al w_cl w_ie w_ww w_th w_mm w_bs) → va_S A s.heap H locs → W p l e (headSpec wwX4_setFlags rmX4_setFlags).room s m ([.ref mo, .int a1] : List Value).toArray below meth c H locs 0 0 Q (F0 m 14 ls [.int (bI z2), .ref mo]) := by
    intro z2 eJ3 H locs ls hl hP hD hS
    have hf := hf.trans (kE1 (eJ3.trans hTJ3))
    refine va_put (D := D) (ci := 4) (v := .int (bI z2)) (ty := .boolean) (C := RX4) (T := TX4) (N := 18) hx hb hws inlX4 tyX4 tyX4_ok nmX4 hown hK hP hD hS 0 rfl rfl 2 (by decide) (hws _ mw_430) (fun _ h9 => h9) rfl (tyX4_ok 2 (by decide)) (bI_nar _) (bI_fit _) (Nat.le_of_ble_eq_true rfl) dX4_setFlags_14 (fun H locs hP hD hS => ?_)
    have hP : va_P D vwCl (kX4 cB cI mo mb ma z2 w_nf w_hf w_cf w_sp w_pc w_on w_wt w_ht w_bg w_cn w_al w_cl w_ie w_ww w_th w_mm w_bs) H := hP
    have hD : va_D A (kX4 cB cI mo mb ma z2 w_nf w_hf w_cf w_sp w_pc w_on w_wt w_ht w_bg w_cn w_al w_cl w_ie w_ww w_th w_mm w_bs) := hD
    refine lv_aload_n hx hb dX4_setFlags_17 rfl (lv_at hl 0 rfl) ?_
    refine lv_iload_n hx hb dX4_setFlags_18 rfl (lv_at hl 1 rfl) ?_
    refine lv_bipush (v := 64) hx hb dX4_setFlags_19 (by decide) ?_
    refine lv_iand hx hb dX4_setFlags_21 ?_
    obtain ⟨TJ6, hTJ6⟩ : ∃ T9 : Bool, T9 = (kIf (kEq (a1 &&& (64 : Int32)) (0 : Int32)) false true) := ⟨_, rfl⟩
    have J6 : ∀ (z5 : Bool), z5 = TJ6 → ∀ (H : Heap) (locs : List Loc) (ls : Array Slot), lv_has ls 2 [(0, .ref mo), (1, .int a1)] → va_P D vwCl (kX4 cB cI mo mb ma z2 w_nf w_hf w_cf w_sp w_pc w_on w_wt w_ht w_bg w_cn w_al w_cl w_ie w_ww w_th w_mm w_bs) H → va_D A (kX4 cB cI mo mb ma z2 w_nf w_hf w_cf w_sp w_pc w_on w_wt w_ht w_bg w_cn w_al w_cl w_ie w_ww w_th w_mm w_bs) → va_S A s.heap H locs → W p l e (headSpec wwX4_setFlags rmX4_setFlags).room s m ([.ref mo, .int a1] : List Value).toArray below meth c H locs 0 0 Q (F0 m 30 ls [.int (bI z5), .ref mo]) := by
      intro z5 eJ6 H locs ls hl hP hD hS
      have hf := hf.trans (kE1 (eJ6.trans hTJ6))
      refine va_put (D := D) (ci := 4) (v := .int (bI z5)) (ty := .boolean) (C := RX4) (T := TX4) (N := 18) hx hb hws inlX4 tyX4 tyX4_ok nmX4 hown hK hP hD hS 0 rfl rfl 3 (by decide) (hws _ mw_452) (fun _ h9 => h9) rfl (tyX4_ok 3 (by decide)) (bI_nar _) (bI_fit _) (Nat.le_of_ble_eq_true rfl) dX4_setFlags_30 (fun H locs hP hD hS => ?_)
      have hP : va_P D vwCl (kX4 cB cI mo mb ma z2 z5 w_hf w_cf w_sp w_pc w_on w_wt w_ht w_bg w_cn w_al w_cl w_ie w_ww w_th w_mm w_bs) H := hP
      have hD : va_D A (kX4 cB cI mo mb ma z2 z5 w_hf w_cf w_sp w_pc w_on w_wt w_ht w_bg w_cn w_al w_cl w_ie w_ww w_th w_mm w_bs) := hD
      refine lv_aload_n hx hb dX4_setFlags_33 rfl (lv_at hl 0 rfl) ?_
      refine lv_iload_n hx hb dX4_setFlags_34 rfl (lv_at hl 1 rfl) ?_
      refine lv_bipush (v := 32) hx hb dX4_setFlags_35 (by decide) ?_
      refine lv_iand hx hb dX4_setFlags_37 ?_
      obtain ⟨TJ9, hTJ9⟩ : ∃ T9 : Bool, T9 = (kIf (kEq (a1 &&& (32 : Int32)) (0 : Int32)) false true) := ⟨_, rfl⟩
      have J9 : ∀ (z8 : Bool), z8 = TJ9 → ∀ (H : Heap) (locs : List Loc) (ls : Array Slot), lv_has ls 2 [(0, .ref mo), (1, .int a1)] → va_P D vwCl (kX4 cB cI mo mb ma z2 z5 w_hf w_cf w_sp w_pc w_on w_wt w_ht w_bg w_cn w_al w_cl w_ie w_ww w_th w_mm w_bs) H → va_D A (kX4 cB cI mo mb ma z2 z5 w_hf w_cf w_sp w_pc w_on w_wt w_ht w_bg w_cn w_al w_cl w_ie w_ww w_th w_mm w_bs) → va_S A s.heap H locs → W p l e (headSpec wwX4_setFlags rmX4_setFlags).room s m ([.ref mo, .int a1] : List Value).toArray below meth c H locs 0 0 Q (F0 m 46 ls [.int (bI z8), .ref mo]) := by
        intro z8 eJ9 H locs ls hl hP hD hS
        have hf := hf.trans (kE1 (eJ9.trans hTJ9))
        refine va_put (D := D) (ci := 4) (v := .int (bI z8)) (ty := .boolean) (C := RX4) (T := TX4) (N := 18) hx hb hws inlX4 tyX4 tyX4_ok nmX4 hown hK hP hD hS 0 rfl rfl 4 (by decide) (hws _ mw_453) (fun _ h9 => h9) rfl (tyX4_ok 4 (by decide)) (bI_nar _) (bI_fit _) (Nat.le_of_ble_eq_true rfl) dX4_setFlags_46 (fun H locs hP hD hS => ?_)
        have hP : va_P D vwCl (kX4 cB cI mo mb ma z2 z5 z8 w_cf w_sp w_pc w_on w_wt w_ht w_bg w_cn w_al w_cl w_ie w_ww w_th w_mm w_bs) H := hP
        have hD : va_D A (kX4 cB cI mo mb ma z2 z5 z8 w_cf w_sp w_pc w_on w_wt w_ht w_bg w_cn w_al w_cl w_ie w_ww w_th w_mm w_bs) := hD
        refine lv_aload_n hx hb dX4_setFlags_49 rfl (lv_at hl 0 rfl) ?_
        refine lv_iload_n hx hb dX4_setFlags_50 rfl (lv_at hl 1 rfl) ?_
        refine lv_bipush (v := 16) hx hb dX4_setFlags_51 (by decide) ?_
        refine lv_iand hx hb dX4_setFlags_53 ?_
        obtain ⟨TJ12, hTJ12⟩ : ∃ T9 : Bool, T9 = (kIf (kEq (a1 &&& (16 : Int32)) (0 : Int32)) false true) := ⟨_, rfl⟩
        have J12 : ∀ (z11 : Bool), z11 = TJ12 → ∀ (H : Heap) (locs : List Loc) (ls : Array Slot), lv_has ls 2 [(0, .ref mo), (1, .int a1)] → va_P D vwCl (kX4 cB cI mo mb ma z2 z5 z8 w_cf w_sp w_pc w_on w_wt w_ht w_bg w_cn w_al w_cl w_ie w_ww w_th w_mm w_bs) H → va_D A (kX4 cB cI mo mb ma z2 z5 z8 w_cf w_sp w_pc w_on w_wt w_ht w_bg w_cn w_al w_cl w_ie w_ww w_th w_mm w_bs) → va_S A s.heap H locs → W p l e (headSpec wwX4_setFlags rmX4_setFlags).room s m ([.ref mo, .int a1] : List Value).toArray below meth c H locs 0 0 Q (F0 m 62 ls [.int (bI z11), .ref mo]) := by
          intro z11 eJ12 H locs ls hl hP hD hS
          have hf := hf.trans (kE1 (eJ12.trans hTJ12))
          refine va_put (D := D) (ci := 4) (v := .int (bI z11)) (ty := .boolean) (C := RX4) (T := TX4) (N := 18) hx hb hws inlX4 tyX4 tyX4_ok nmX4 hown hK hP hD hS 0 rfl rfl 5 (by decide) (hws _ mw_431) (fun _ h9 => h9) rfl (tyX4_ok 5 (by decide)) (bI_nar _) (bI_fit _) (Nat.le_of_ble_eq_true rfl) dX4_setFlags_62 (fun H locs hP hD hS => ?_)
          have hP : va_P D vwCl (kX4 cB cI mo mb ma z2 z5 z8 z11 w_sp w_pc w_on w_wt w_ht w_bg w_cn w_al w_cl w_ie w_ww w_th w_mm w_bs) H := hP
          have hD : va_D A (kX4 cB cI mo mb ma z2 z5 z8 z11 w_sp w_pc w_on w_wt w_ht w_bg w_cn w_al w_cl w_ie w_ww w_th w_mm w_bs) := hD
          rw [← hQ]
          exact W.vret hx hb hr (fun t ht hW => ⟨⟨(z2, z5, z8, z11), rfl, hf.symm, by rw [ht]; exact hP, va_K.moved hW.alike hK, hD⟩, hS.F ht⟩) hS.2.2 dX4_setFlags_65
        have hf := hTJ12
        refine lv_if_eq (tgt := 61) hx hb dX4_setFlags_54 (by decide) (fun c10 => ?_) (fun c10 => ?_)
        · have hf := hf.trans (kt_eq c10)
          refine lv_iconst (v := 0) hx hb dX4_setFlags_61 (by decide) ?_
          exact J12 false hf.symm H locs ls (lv_sub hl [0, 1] rfl) hP hD hS
        · have hf := hf.trans (kf_eq c10)
          refine lv_iconst (v := 1) hx hb dX4_setFlags_57 (by decide) ?_
          refine lv_goto (tgt := 62) hx hb dX4_setFlags_58 (by decide) ?_
          exact J12 true hf.symm H locs ls (lv_sub hl [0, 1] rfl) hP hD hS
      have hf := hTJ9
      refine lv_if_eq (tgt := 45) hx hb dX4_setFlags_38 (by decide) (fun c7 => ?_) (fun c7 => ?_)
      · have hf := hf.trans (kt_eq c7)
        refine lv_iconst (v := 0) hx hb dX4_setFlags_45 (by decide) ?_
        exact J9 false hf.symm H locs ls (lv_sub hl [0, 1] rfl) hP hD hS
      · have hf := hf.trans (kf_eq c7)
        refine lv_iconst (v := 1) hx hb dX4_setFlags_41 (by decide) ?_
        refine lv_goto (tgt := 46) hx hb dX4_setFlags_42 (by decide) ?_
        exact J9 true hf.symm H locs ls (lv_sub hl [0, 1] rfl) hP hD hS
    have hf := hTJ6
    refine lv_if_eq (tgt := 29) hx hb dX4_setFlags_22 (by decide) (fun c4 => ?_) (fun c4 => ?_)
    · have hf := hf.trans (kt_eq c4)
      refine lv_iconst (v := 0) hx hb dX4_setFlags_29 (by decide) ?_
      exact J6 false hf.symm H locs ls (lv_sub hl [0, 1] rfl) hP hD hS
    · have hf := hf.trans (kf_eq c4)
      refine lv_iconst (v := 1) hx hb dX4_setFlags_25 (by decide) ?_
      refine lv_goto (tgt := 30) hx hb dX4_setFlags_26 (by decide) ?_
      exact J6 true hf.symm H locs ls (lv_sub hl [0, 1] rfl) hP hD hS
  have hf := hTJ3
  refine lv_if_eq (tgt := 13) hx hb dX4_setFlags_6 (by decide) (fun c1 => ?_) (fun c1 => ?_)
  · have hf := hf.trans (kt_eq c1)
    refine lv_iconst (v := 0) hx hb dX4_setFlags_13 (by decide) ?_
    exact J3 false hf.symm H locs ls (lv_sub hl [0, 1] rfl) hP hD hS
  · have hf := hf.trans (kf_eq c1)
    refine lv_iconst (v := 1) hx hb dX4_setFlags_9 (by decide) ?_
    refine lv_goto (tgt := 14) hx hb dX4_setFlags_10 (by decide) ?_
    exact J3 true hf.symm H locs ls (lv_sub hl [0, 1] rfl) hP hD hS
def fX4_flagsAre (w_zf : Bool) (w_nf : Bool) (w_hf : Bool) (w_cf : Bool) (a1 : Bool) (a2 : Bool) (a3 : Bool) (a4 : Bool) : Bool × Bool × Bool × Bool := (a1, a2, a3, a4)
def rmX4_flagsAre : Room := { frames := 0, cells := 0, slots := 0, locals := 0 }
def wwX4_flagsAre : List Cond := Cond.code yX4_flagsAre cX4_flagsAre 5 none :: wsL_law
theorem hdX4_flagsAre : yX4_flagsAre.cls = RX4 ∧ yX4_flagsAre.cls ≠ "java/lang/invoke/MethodHandle" ∧ yX4_flagsAre.cls ≠ "java/lang/invoke/VarHandle" ∧ (parseMethodDescriptor yX4_flagsAre.desc).map (fun d => d.parameters.length) = some 4 := by decide +kernel
set_option maxHeartbeats 4000000 in
set_option maxRecDepth 100000 in
theorem c_X4_flagsAre (l : Launch) (D : va_G) (cB : ClassId) (cI : ClassId) (mo mb ma sz : Nat) (w_zf : Bool) (w_nf : Bool) (w_hf : Bool) (w_cf : Bool) (w_sp : Int32) (w_pc : Int32) (w_on : Bool) (w_wt : Bool) (w_ht : Bool) (w_bg : Bool) (w_cn : Int32) (w_al : Int32) (w_cl : Int32) (w_ie : Bool) (w_ww : Bool) (w_th : Int32) (w_mm : Nat → Int32) (w_bs : Nat → Int32) (a1 : Bool) (a2 : Bool) (a3 : Bool) (a4 : Bool)  : Met l yX4_flagsAre wwX4_flagsAre rmX4_flagsAre (va_Pc [.ref mo, .int (bI a1), .int (bI a2), .int (bI a3), .int (bI a4)] (kp D (kX4 cB cI mo mb ma w_zf w_nf w_hf w_cf w_sp w_pc w_on w_wt w_ht w_bg w_cn w_al w_cl w_ie w_ww w_th w_mm w_bs) [(cB, .byte), (cI, .int)] sz)) (va_Qv (fun (u9 : Bool × Bool × Bool × Bool) => u9 = fX4_flagsAre w_zf w_nf w_hf w_cf a1 a2 a3 a4) (fun u9 t => kq D (kX4 cB cI mo mb ma (u9.1) (u9.2.1) (u9.2.2.1) (u9.2.2.2) w_sp w_pc w_on w_wt w_ht w_bg w_cn w_al w_cl w_ie w_ww w_th w_mm w_bs) [(cB, .byte), (cI, .int)] (va_A (kX4 cB cI mo mb ma w_zf w_nf w_hf w_cf w_sp w_pc w_on w_wt w_ht w_bg w_cn w_al w_cl w_ie w_ww w_th w_mm w_bs) sz) t) (va_A (kX4 cB cI mo mb ma w_zf w_nf w_hf w_cf w_sp w_pc w_on w_wt w_ht w_bg w_cn w_al w_cl w_ie w_ww w_th w_mm w_bs) sz)) 0 0 (va_A (kX4 cB cI mo mb ma w_zf w_nf w_hf w_cf w_sp w_pc w_on w_wt w_ht w_bg w_cn w_al w_cl w_ie w_ww w_th w_mm w_bs) sz) := by
  refine Met.ofW (cc := cX4_flagsAre) (maxL := 5) (ret := none) (by decide) rfl ?_
  intro p e s m args below meth c s₁ B hml hv
  obtain ⟨rfl, hsz, hP, hK, hD0, hT⟩ := hv
  have hx := B.exec
  have hb := B.bytes
  have hr := B.returns
  have hts := atoms_spec (ws := wwX4_flagsAre) B.pre
  have hws : ∀ w ∈ wsL_law, w.before _ s = true := fun w h => hts w (List.mem_cons_of_mem _ h)
  have hown : s.vm.findClass RX4 = some m.cls := findClass_of_methodNamed B.named
  have hlocks := B.notSynchronized
  subst hsz
  have hD := hD0.self (sz := s.heap.size)
  generalize hAe : va_A (kX4 cB cI mo mb ma w_zf w_nf w_hf w_cf w_sp w_pc w_on w_wt w_ht w_bg w_cn w_al w_cl w_ie w_ww w_th w_mm w_bs) s.heap.size = A at hD hT ⊢
  have hA : ∀ q : Nat, s.heap.size ≤ q → A q := fun q h => by rw [← hAe]; exact Or.inr h
  have hS : va_S A s.heap s.heap [] := va_S.rf
  have hl := lv_entry ([.ref mo, .int (bI a1), .int (bI a2), .int (bI a3), .int (bI a4)]) (n := 5) (Nat.le_of_ble_eq_true rfl)
  rw [lg_entry_eq]
  generalize (lg_sl ([.ref mo, .int (bI a1), .int (bI a2), .int (bI a3), .int (bI a4)]) ++ List.replicate (5 - (lg_sl ([.ref mo, .int (bI a1), .int (bI a2), .int (bI a3), .int (bI a4)])).length) Slot.unset).toArray = ls at hl ⊢
  have hl : lv_has ls 5 [(0, .ref mo), (1, .int (bI a1)), (2, .int (bI a2)), (3, .int (bI a3)), (4, .int (bI a4))] := hl
  generalize hQ : MQ _ _ _ _ _ _ _ = Q
  obtain ⟨H, hHe⟩ : ∃ H : Heap, H = s.heap := ⟨_, rfl⟩
  obtain ⟨locs, hle⟩ : ∃ L : List Loc, L = [] := ⟨_, rfl⟩
  have hP : va_P D vwCl (kX4 cB cI mo mb ma w_zf w_nf w_hf w_cf w_sp w_pc w_on w_wt w_ht w_bg w_cn w_al w_cl w_ie w_ww w_th w_mm w_bs) H := by rw [hHe]; exact hP
  have hS : va_S A s.heap H locs := by rw [hHe, hle]; exact hS
  refine kw_start hHe.symm hle.symm ?_
  have hf : fX4_flagsAre w_zf w_nf w_hf w_cf a1 a2 a3 a4 = fX4_flagsAre w_zf w_nf w_hf w_cf a1 a2 a3 a4 := rfl
  refine lv_aload_n hx hb dX4_flagsAre_0 rfl (lv_at hl 0 rfl) ?_
  refine lv_iload_n hx hb dX4_flagsAre_1 rfl (lv_at hl 1 rfl) ?_
  refine va_put (D := D) (ci := 4) (v := .int (bI a1)) (ty := .boolean) (C := RX4) (T := TX4) (N := 18) hx hb hws inlX4 tyX4 tyX4_ok nmX4 hown hK hP hD hS 0 rfl rfl 2 (by decide) (hws _ mw_430) (fun _ h9 => h9) rfl (tyX4_ok 2 (by decide)) (bI_nar _) (bI_fit _) (Nat.le_of_ble_eq_true rfl) dX4_flagsAre_2 (fun H locs hP hD hS => ?_)
  have hP : va_P D vwCl (kX4 cB cI mo mb ma a1 w_nf w_hf w_cf w_sp w_pc w_on w_wt w_ht w_bg w_cn w_al w_cl w_ie w_ww w_th w_mm w_bs) H := hP
  have hD : va_D A (kX4 cB cI mo mb ma a1 w_nf w_hf w_cf w_sp w_pc w_on w_wt w_ht w_bg w_cn w_al w_cl w_ie w_ww w_th w_mm w_bs) := hD
  refine lv_aload_n hx hb dX4_flagsAre_5 rfl (lv_at hl 0 rfl) ?_
  refine lv_iload_n hx hb dX4_flagsAre_6 rfl (lv_at hl 2 rfl) ?_
  refine va_put (D := D) (ci := 4) (v := .int (bI a2)) (ty := .boolean) (C := RX4) (T := TX4) (N := 18) hx hb hws inlX4 tyX4 tyX4_ok nmX4 hown hK hP hD hS 0 rfl rfl 3 (by decide) (hws _ mw_452) (fun _ h9 => h9) rfl (tyX4_ok 3 (by decide)) (bI_nar _) (bI_fit _) (Nat.le_of_ble_eq_true rfl) dX4_flagsAre_7 (fun H locs hP hD hS => ?_)
  have hP : va_P D vwCl (kX4 cB cI mo mb ma a1 a2 w_hf w_cf w_sp w_pc w_on w_wt w_ht w_bg w_cn w_al w_cl w_ie w_ww w_th w_mm w_bs) H := hP
  have hD : va_D A (kX4 cB cI mo mb ma a1 a2 w_hf w_cf w_sp w_pc w_on w_wt w_ht w_bg w_cn w_al w_cl w_ie w_ww w_th w_mm w_bs) := hD
  refine lv_aload_n hx hb dX4_flagsAre_10 rfl (lv_at hl 0 rfl) ?_
  refine lv_iload_n hx hb dX4_flagsAre_11 rfl (lv_at hl 3 rfl) ?_
  refine va_put (D := D) (ci := 4) (v := .int (bI a3)) (ty := .boolean) (C := RX4) (T := TX4) (N := 18) hx hb hws inlX4 tyX4 tyX4_ok nmX4 hown hK hP hD hS 0 rfl rfl 4 (by decide) (hws _ mw_453) (fun _ h9 => h9) rfl (tyX4_ok 4 (by decide)) (bI_nar _) (bI_fit _) (Nat.le_of_ble_eq_true rfl) dX4_flagsAre_12 (fun H locs hP hD hS => ?_)
  have hP : va_P D vwCl (kX4 cB cI mo mb ma a1 a2 a3 w_cf w_sp w_pc w_on w_wt w_ht w_bg w_cn w_al w_cl w_ie w_ww w_th w_mm w_bs) H := hP
  have hD : va_D A (kX4 cB cI mo mb ma a1 a2 a3 w_cf w_sp w_pc w_on w_wt w_ht w_bg w_cn w_al w_cl w_ie w_ww w_th w_mm w_bs) := hD
  refine lv_aload_n hx hb dX4_flagsAre_15 rfl (lv_at hl 0 rfl) ?_
  refine lv_iload hx hb dX4_flagsAre_16 (lv_at hl 4 rfl) ?_
  refine va_put (D := D) (ci := 4) (v := .int (bI a4)) (ty := .boolean) (C := RX4) (T := TX4) (N := 18) hx hb hws inlX4 tyX4 tyX4_ok nmX4 hown hK hP hD hS 0 rfl rfl 5 (by decide) (hws _ mw_431) (fun _ h9 => h9) rfl (tyX4_ok 5 (by decide)) (bI_nar _) (bI_fit _) (Nat.le_of_ble_eq_true rfl) dX4_flagsAre_18 (fun H locs hP hD hS => ?_)
  have hP : va_P D vwCl (kX4 cB cI mo mb ma a1 a2 a3 a4 w_sp w_pc w_on w_wt w_ht w_bg w_cn w_al w_cl w_ie w_ww w_th w_mm w_bs) H := hP
  have hD : va_D A (kX4 cB cI mo mb ma a1 a2 a3 a4 w_sp w_pc w_on w_wt w_ht w_bg w_cn w_al w_cl w_ie w_ww w_th w_mm w_bs) := hD
  rw [← hQ]
  exact W.vret hx hb hr (fun t ht hW => ⟨⟨(a1, a2, a3, a4), rfl, hf.symm, by rw [ht]; exact hP, va_K.moved hW.alike hK, hD⟩, hS.F ht⟩) hS.2.2 dX4_flagsAre_21
def fX4_operand (w_cl : Int32) (w_mm : Nat → Int32) (w_bs : Nat → Int32) (a1 : Int32) : Int32 × Int32 := (kIf (kEq a1 (6 : Int32)) (kU1 (fX4_hl w_bs) (fun (r3 : Int32) => (kU2 (fX4_reads w_cl w_mm r3) (fun (r6 : Int32) (b4 : Int32) => (r6, b4))))) ((w_bs a1.toNatClampNeg), w_cl))
def rmX4_operand : Room := { frames := 2, cells := 0, slots := 0, locals := 42 }
def wwX4_operand : List Cond := Cond.code yX4_operand cX4_operand 2 (some .int) :: wsL_law
theorem hdX4_operand : yX4_operand.cls = RX4 ∧ yX4_operand.cls ≠ "java/lang/invoke/MethodHandle" ∧ yX4_operand.cls ≠ "java/lang/invoke/VarHandle" ∧ (parseMethodDescriptor yX4_operand.desc).map (fun d => d.parameters.length) = some 1 := by decide +kernel
set_option maxHeartbeats 4000000 in
set_option maxRecDepth 100000 in
theorem c_X4_operand (l : Launch) (D : va_G) (cB : ClassId) (cI : ClassId) (mo mb ma sz : Nat) (w_zf : Bool) (w_nf : Bool) (w_hf : Bool) (w_cf : Bool) (w_sp : Int32) (w_pc : Int32) (w_on : Bool) (w_wt : Bool) (w_ht : Bool) (w_bg : Bool) (w_cn : Int32) (w_al : Int32) (w_cl : Int32) (w_ie : Bool) (w_ww : Bool) (w_th : Int32) (w_mm : Nat → Int32) (w_bs : Nat → Int32) (a1 : Int32) (hpre1 : vp_in a1 8) : Met l yX4_operand wwX4_operand rmX4_operand (va_Pc [.ref mo, .int a1] (kp D (kX4 cB cI mo mb ma w_zf w_nf w_hf w_cf w_sp w_pc w_on w_wt w_ht w_bg w_cn w_al w_cl w_ie w_ww w_th w_mm w_bs) [(cB, .byte), (cI, .int)] sz)) (va_Qi (fun (r : Int32) (u9 : Int32) => (r, u9) = fX4_operand w_cl w_mm w_bs a1) (fun u9 t => kq D (kX4 cB cI mo mb ma w_zf w_nf w_hf w_cf w_sp w_pc w_on w_wt w_ht w_bg w_cn w_al u9 w_ie w_ww w_th w_mm w_bs) [(cB, .byte), (cI, .int)] (va_A (kX4 cB cI mo mb ma w_zf w_nf w_hf w_cf w_sp w_pc w_on w_wt w_ht w_bg w_cn w_al w_cl w_ie w_ww w_th w_mm w_bs) sz) t) (va_A (kX4 cB cI mo mb ma w_zf w_nf w_hf w_cf w_sp w_pc w_on w_wt w_ht w_bg w_cn w_al w_cl w_ie w_ww w_th w_mm w_bs) sz)) 0 0 (va_A (kX4 cB cI mo mb ma w_zf w_nf w_hf w_cf w_sp w_pc w_on w_wt w_ht w_bg w_cn w_al w_cl w_ie w_ww w_th w_mm w_bs) sz) := by
  refine Met.ofW (cc := cX4_operand) (maxL := 2) (ret := (some .int)) (by decide) rfl ?_
  intro p e s m args below meth c s₁ B hml hv
  obtain ⟨rfl, hsz, hP, hK, hD0, hT⟩ := hv
  have hx := B.exec
  have hb := B.bytes
  have hr := B.returns
  have hts := atoms_spec (ws := wwX4_operand) B.pre
  have hws : ∀ w ∈ wsL_law, w.before _ s = true := fun w h => hts w (List.mem_cons_of_mem _ h)
  have hown : s.vm.findClass RX4 = some m.cls := findClass_of_methodNamed B.named
  have hlocks := B.notSynchronized
  subst hsz
  have hD := hD0.self (sz := s.heap.size)
  generalize hAe : va_A (kX4 cB cI mo mb ma w_zf w_nf w_hf w_cf w_sp w_pc w_on w_wt w_ht w_bg w_cn w_al w_cl w_ie w_ww w_th w_mm w_bs) s.heap.size = A at hD hT ⊢
  have hA : ∀ q : Nat, s.heap.size ≤ q → A q := fun q h => by rw [← hAe]; exact Or.inr h
  have hS : va_S A s.heap s.heap [] := va_S.rf
  have hl := lv_entry ([.ref mo, .int a1]) (n := 2) (Nat.le_of_ble_eq_true rfl)
  rw [lg_entry_eq]
  generalize (lg_sl ([.ref mo, .int a1]) ++ List.replicate (2 - (lg_sl ([.ref mo, .int a1])).length) Slot.unset).toArray = ls at hl ⊢
  have hl : lv_has ls 2 [(0, .ref mo), (1, .int a1)] := hl
  generalize hQ : MQ _ _ _ _ _ _ _ = Q
  obtain ⟨H, hHe⟩ : ∃ H : Heap, H = s.heap := ⟨_, rfl⟩
  obtain ⟨locs, hle⟩ : ∃ L : List Loc, L = [] := ⟨_, rfl⟩
  have hP : va_P D vwCl (kX4 cB cI mo mb ma w_zf w_nf w_hf w_cf w_sp w_pc w_on w_wt w_ht w_bg w_cn w_al w_cl w_ie w_ww w_th w_mm w_bs) H := by rw [hHe]; exact hP
  have hS : va_S A s.heap H locs := by rw [hHe, hle]; exact hS
  refine kw_start hHe.symm hle.symm ?_
  have hf : fX4_operand w_cl w_mm w_bs a1 = fX4_operand w_cl w_mm w_bs a1 := rfl
  refine lv_iload_n hx hb dX4_operand_0 rfl (lv_at hl 1 rfl) ?_
  refine lv_bipush (v := 6) hx hb dX4_operand_1 (by decide) ?_
  refine lv_icmp_ne (tgt := 17) hx hb dX4_operand_3 (by decide) (fun c1 => ?_) (fun c1 => ?_)
  · have hf := hf.trans (kf_eq c1)
    refine lv_aload_n hx hb dX4_operand_17 rfl (lv_at hl 0 rfl) ?_
    refine va_get (D := D) (ci := 4) (v := .ref ma) (C := RX4) (T := TX4) (N := 18) hx hb hws inlX4 hown hK hP 0 rfl rfl 1 (by decide) (hws _ mw_45) (fun _ h9 => h9) rfl dX4_operand_18 ?_
    refine lv_iload_n hx hb dX4_operand_21 rfl (lv_at hl 1 rfl) ?_
    refine va_iald hx hb hK hP 2 1 rfl rfl hpre1 dX4_operand_22 ?_
    rw [← hQ]
    exact W.iret (v := (w_bs a1.toNatClampNeg)) hx hb hr (fun t ht hW => ⟨⟨(w_bs a1.toNatClampNeg), w_cl, rfl, hf.symm, by rw [ht]; exact hP, va_K.moved hW.alike hK, hD⟩, hS.F ht⟩) hS.2.2 dX4_operand_23
  · have hf := hf.trans (kt_eq c1)
    refine lv_aload_n hx hb dX4_operand_6 rfl (lv_at hl 0 rfl) ?_
    refine lv_aload_n hx hb dX4_operand_7 rfl (lv_at hl 0 rfl) ?_
    refine kc_Vi (wr := []) (As := []) (rest := [.ref mo]) (fun _ => (kX4 cB cI mo mb ma w_zf w_nf w_hf w_cf w_sp w_pc w_on w_wt w_ht w_bg w_cn w_al w_cl w_ie w_ww w_th w_mm w_bs)) ⟨hx, hb, hml, hown, hws⟩ hK hP hD hS hA hT (c_X4_hl l D cB cI mo mb ma H.size w_zf w_nf w_hf w_cf w_sp w_pc w_on w_wt w_ht w_bg w_cn w_al w_cl w_ie w_ww w_th w_mm w_bs ) (cwV 0 hws (gw_V mw_436 mw_437 mw_438 mw_5 mw_439) rfl rfl rfl hdX4_hl ⟨Nat.le_of_ble_eq_true rfl, Nat.le_of_ble_eq_true rfl⟩) [0, 1, 2] [] [0, 1] [0, 1, 2] rfl rfl rfl rfl (by decide) rfl (fun _ => rfl) rfl 0 rfl rfl rfl rfl hl.1 rfl (Nat.le_of_ble_eq_true rfl) dX4_operand_8 ⟨Nat.zero_le _, Nat.zero_le _⟩ (fun r3 _ H locs hw2 hP hD hS => ?_)
    have hP : va_P D vwCl (kX4 cB cI mo mb ma w_zf w_nf w_hf w_cf w_sp w_pc w_on w_wt w_ht w_bg w_cn w_al w_cl w_ie w_ww w_th w_mm w_bs) H := hP
    have hD : va_D A (kX4 cB cI mo mb ma w_zf w_nf w_hf w_cf w_sp w_pc w_on w_wt w_ht w_bg w_cn w_al w_cl w_ie w_ww w_th w_mm w_bs) := hD
    have hf := hf.trans (kE1 hw2)
    refine kc_Vi (wr := []) (As := [.int r3]) (rest := []) (fun u9 => (kX4 cB cI mo mb ma w_zf w_nf w_hf w_cf w_sp w_pc w_on w_wt w_ht w_bg w_cn w_al u9 w_ie w_ww w_th w_mm w_bs)) ⟨hx, hb, hml, hown, hws⟩ hK hP hD hS hA hT (c_X4_reads l D cB cI mo mb ma H.size w_zf w_nf w_hf w_cf w_sp w_pc w_on w_wt w_ht w_bg w_cn w_al w_cl w_ie w_ww w_th w_mm w_bs r3) (cwV 1 hws (gw_V mw_406 mw_407 mw_408 mw_5 mw_409) rfl rfl rfl hdX4_reads ⟨Nat.le_of_ble_eq_true rfl, Nat.le_of_ble_eq_true rfl⟩) [0, 1, 2] [] [0, 1] [0, 1, 2] rfl rfl rfl rfl (by decide) rfl (fun _ => rfl) rfl 0 rfl rfl rfl rfl hl.1 rfl (Nat.le_of_ble_eq_true rfl) dX4_operand_11 ⟨Nat.zero_le _, Nat.zero_le _⟩ (fun r6 b4 H locs hw5 hP hD hS => ?_)
    have hP : va_P D vwCl (kX4 cB cI mo mb ma w_zf w_nf w_hf w_cf w_sp w_pc w_on w_wt w_ht w_bg w_cn w_al b4 w_ie w_ww w_th w_mm w_bs) H := hP
    have hD : va_D A (kX4 cB cI mo mb ma w_zf w_nf w_hf w_cf w_sp w_pc w_on w_wt w_ht w_bg w_cn w_al b4 w_ie w_ww w_th w_mm w_bs) := hD
    have hf := hf.trans (kE2 hw5)
    refine lv_goto (tgt := 23) hx hb dX4_operand_14 (by decide) ?_
    rw [← hQ]
    exact W.iret (v := r6) hx hb hr (fun t ht hW => ⟨⟨r6, b4, rfl, hf.symm, by rw [ht]; exact hP, va_K.moved hW.alike hK, hD⟩, hS.F ht⟩) hS.2.2 dX4_operand_23
def fX4_setOperand (w_cn : Int32) (w_cl : Int32) (w_mm : Nat → Int32) (w_bs : Nat → Int32) (a1 : Int32) (a2 : Int32) : Int32 × Int32 × (Nat → Int32) × (Nat → Int32) := (kIf (kEq a1 (6 : Int32)) (kU1 (fX4_hl w_bs) (fun (r4 : Int32) => (kU3 (fX4_writes w_cn w_cl w_mm r4 (a2 &&& (255 : Int32))) (fun (b5 : Int32) (b6 : Int32) (b7 : Nat → Int32) => (b5, b6, b7, w_bs))))) (kU1 (upd w_bs a1.toNatClampNeg (a2 &&& (255 : Int32))) (fun (f2 : Nat → Int32) => (w_cn, w_cl, w_mm, f2))))
def rmX4_setOperand : Room := { frames := 2, cells := 0, slots := 0, locals := 44 }
def wwX4_setOperand : List Cond := Cond.code yX4_setOperand cX4_setOperand 3 none :: wsL_law
theorem hdX4_setOperand : yX4_setOperand.cls = RX4 ∧ yX4_setOperand.cls ≠ "java/lang/invoke/MethodHandle" ∧ yX4_setOperand.cls ≠ "java/lang/invoke/VarHandle" ∧ (parseMethodDescriptor yX4_setOperand.desc).map (fun d => d.parameters.length) = some 2 := by decide +kernel
set_option maxHeartbeats 4000000 in
set_option maxRecDepth 100000 in
theorem c_X4_setOperand (l : Launch) (D : va_G) (cB : ClassId) (cI : ClassId) (mo mb ma sz : Nat) (w_zf : Bool) (w_nf : Bool) (w_hf : Bool) (w_cf : Bool) (w_sp : Int32) (w_pc : Int32) (w_on : Bool) (w_wt : Bool) (w_ht : Bool) (w_bg : Bool) (w_cn : Int32) (w_al : Int32) (w_cl : Int32) (w_ie : Bool) (w_ww : Bool) (w_th : Int32) (w_mm : Nat → Int32) (w_bs : Nat → Int32) (a1 : Int32) (a2 : Int32) (hpre1 : vp_in a1 8) : Met l yX4_setOperand wwX4_setOperand rmX4_setOperand (va_Pc [.ref mo, .int a1, .int a2] (kp D (kX4 cB cI mo mb ma w_zf w_nf w_hf w_cf w_sp w_pc w_on w_wt w_ht w_bg w_cn w_al w_cl w_ie w_ww w_th w_mm w_bs) [(cB, .byte), (cI, .int)] sz)) (va_Qv (fun (u9 : Int32 × Int32 × (Nat → Int32) × (Nat → Int32)) => u9 = fX4_setOperand w_cn w_cl w_mm w_bs a1 a2) (fun u9 t => kq D (kX4 cB cI mo mb ma w_zf w_nf w_hf w_cf w_sp w_pc w_on w_wt w_ht w_bg (u9.1) w_al (u9.2.1) w_ie w_ww w_th (u9.2.2.1) (u9.2.2.2)) [(cB, .byte), (cI, .int)] (va_A (kX4 cB cI mo mb ma w_zf w_nf w_hf w_cf w_sp w_pc w_on w_wt w_ht w_bg w_cn w_al w_cl w_ie w_ww w_th w_mm w_bs) sz) t) (va_A (kX4 cB cI mo mb ma w_zf w_nf w_hf w_cf w_sp w_pc w_on w_wt w_ht w_bg w_cn w_al w_cl w_ie w_ww w_th w_mm w_bs) sz)) 0 0 (va_A (kX4 cB cI mo mb ma w_zf w_nf w_hf w_cf w_sp w_pc w_on w_wt w_ht w_bg w_cn w_al w_cl w_ie w_ww w_th w_mm w_bs) sz) := by
  refine Met.ofW (cc := cX4_setOperand) (maxL := 3) (ret := none) (by decide) rfl ?_
  intro p e s m args below meth c s₁ B hml hv
  obtain ⟨rfl, hsz, hP, hK, hD0, hT⟩ := hv
  have hx := B.exec
  have hb := B.bytes
  have hr := B.returns
  have hts := atoms_spec (ws := wwX4_setOperand) B.pre
  have hws : ∀ w ∈ wsL_law, w.before _ s = true := fun w h => hts w (List.mem_cons_of_mem _ h)
  have hown : s.vm.findClass RX4 = some m.cls := findClass_of_methodNamed B.named
  have hlocks := B.notSynchronized
  subst hsz
  have hD := hD0.self (sz := s.heap.size)
  generalize hAe : va_A (kX4 cB cI mo mb ma w_zf w_nf w_hf w_cf w_sp w_pc w_on w_wt w_ht w_bg w_cn w_al w_cl w_ie w_ww w_th w_mm w_bs) s.heap.size = A at hD hT ⊢
  have hA : ∀ q : Nat, s.heap.size ≤ q → A q := fun q h => by rw [← hAe]; exact Or.inr h
  have hS : va_S A s.heap s.heap [] := va_S.rf
  have hl := lv_entry ([.ref mo, .int a1, .int a2]) (n := 3) (Nat.le_of_ble_eq_true rfl)
  rw [lg_entry_eq]
  generalize (lg_sl ([.ref mo, .int a1, .int a2]) ++ List.replicate (3 - (lg_sl ([.ref mo, .int a1, .int a2])).length) Slot.unset).toArray = ls at hl ⊢
  have hl : lv_has ls 3 [(0, .ref mo), (1, .int a1), (2, .int a2)] := hl
  generalize hQ : MQ _ _ _ _ _ _ _ = Q
  obtain ⟨H, hHe⟩ : ∃ H : Heap, H = s.heap := ⟨_, rfl⟩
  obtain ⟨locs, hle⟩ : ∃ L : List Loc, L = [] := ⟨_, rfl⟩
  have hP : va_P D vwCl (kX4 cB cI mo mb ma w_zf w_nf w_hf w_cf w_sp w_pc w_on w_wt w_ht w_bg w_cn w_al w_cl w_ie w_ww w_th w_mm w_bs) H := by rw [hHe]; exact hP
  have hS : va_S A s.heap H locs := by rw [hHe, hle]; exact hS
  refine kw_start hHe.symm hle.symm ?_
  have hf : fX4_setOperand w_cn w_cl w_mm w_bs a1 a2 = fX4_setOperand w_cn w_cl w_mm w_bs a1 a2 := rfl
  refine lv_iload_n hx hb dX4_setOperand_0 rfl (lv_at hl 1 rfl) ?_
  refine lv_bipush (v := 6) hx hb dX4_setOperand_1 (by decide) ?_
  refine lv_icmp_ne (tgt := 22) hx hb dX4_setOperand_3 (by decide) (fun c1 => ?_) (fun c1 => ?_)
  · have hf := hf.trans (kf_eq c1)
    refine lv_aload_n hx hb dX4_setOperand_22 rfl (lv_at hl 0 rfl) ?_
    refine va_get (D := D) (ci := 4) (v := .ref ma) (C := RX4) (T := TX4) (N := 18) hx hb hws inlX4 hown hK hP 0 rfl rfl 1 (by decide) (hws _ mw_45) (fun _ h9 => h9) rfl dX4_setOperand_23 ?_
    refine lv_iload_n hx hb dX4_setOperand_26 rfl (lv_at hl 1 rfl) ?_
    refine lv_iload_n hx hb dX4_setOperand_27 rfl (lv_at hl 2 rfl) ?_
    refine lv_sipush (v := 255) hx hb dX4_setOperand_28 (by decide) ?_
    refine lv_iand hx hb dX4_setOperand_31 ?_
    refine va_iast hx hb hK hP hD hS 2 1 rfl rfl hpre1 dX4_setOperand_32 (fun H locs hP hD hS => ?_)
    obtain ⟨f2, ef2⟩ : ∃ f9 : Nat → Int32, f9 = upd w_bs a1.toNatClampNeg (a2 &&& (255 : Int32)) := ⟨_, rfl⟩
    have hf := hf.trans (kE1 ef2)
    have hP : va_P D vwCl (kX4 cB cI mo mb ma w_zf w_nf w_hf w_cf w_sp w_pc w_on w_wt w_ht w_bg w_cn w_al w_cl w_ie w_ww w_th w_mm f2) H := by rw [ef2]; exact hP
    have hD : va_D A (kX4 cB cI mo mb ma w_zf w_nf w_hf w_cf w_sp w_pc w_on w_wt w_ht w_bg w_cn w_al w_cl w_ie w_ww w_th w_mm f2) := by rw [ef2]; exact hD
    rw [← hQ]
    exact W.vret hx hb hr (fun t ht hW => ⟨⟨(w_cn, w_cl, w_mm, f2), rfl, hf.symm, by rw [ht]; exact hP, va_K.moved hW.alike hK, hD⟩, hS.F ht⟩) hS.2.2 dX4_setOperand_33
  · have hf := hf.trans (kt_eq c1)
    refine lv_aload_n hx hb dX4_setOperand_6 rfl (lv_at hl 0 rfl) ?_
    refine lv_aload_n hx hb dX4_setOperand_7 rfl (lv_at hl 0 rfl) ?_
    refine kc_Vi (wr := []) (As := []) (rest := [.ref mo]) (fun _ => (kX4 cB cI mo mb ma w_zf w_nf w_hf w_cf w_sp w_pc w_on w_wt w_ht w_bg w_cn w_al w_cl w_ie w_ww w_th w_mm w_bs)) ⟨hx, hb, hml, hown, hws⟩ hK hP hD hS hA hT (c_X4_hl l D cB cI mo mb ma H.size w_zf w_nf w_hf w_cf w_sp w_pc w_on w_wt w_ht w_bg w_cn w_al w_cl w_ie w_ww w_th w_mm w_bs ) (cwV 0 hws (gw_V mw_436 mw_437 mw_438 mw_5 mw_439) rfl rfl rfl hdX4_hl ⟨Nat.le_of_ble_eq_true rfl, Nat.le_of_ble_eq_true rfl⟩) [0, 1, 2] [] [0, 1] [0, 1, 2] rfl rfl rfl rfl (by decide) rfl (fun _ => rfl) rfl 0 rfl rfl rfl rfl hl.1 rfl (Nat.le_of_ble_eq_true rfl) dX4_setOperand_8 ⟨Nat.zero_le _, Nat.zero_le _⟩ (fun r4 _ H locs hw3 hP hD hS => ?_)
    have hP : va_P D vwCl (kX4 cB cI mo mb ma w_zf w_nf w_hf w_cf w_sp w_pc w_on w_wt w_ht w_bg w_cn w_al w_cl w_ie w_ww w_th w_mm w_bs) H := hP
    have hD : va_D A (kX4 cB cI mo mb ma w_zf w_nf w_hf w_cf w_sp w_pc w_on w_wt w_ht w_bg w_cn w_al w_cl w_ie w_ww w_th w_mm w_bs) := hD
    have hf := hf.trans (kE1 hw3)
    refine lv_iload_n hx hb dX4_setOperand_11 rfl (lv_at hl 2 rfl) ?_
    refine lv_sipush (v := 255) hx hb dX4_setOperand_12 (by decide) ?_
    refine lv_iand hx hb dX4_setOperand_15 ?_
    refine kc_Vv (wr := []) (As := [.int r4, .int (a2 &&& (255 : Int32))]) (rest := []) (fun u9 => (kX4 cB cI mo mb ma w_zf w_nf w_hf w_cf w_sp w_pc w_on w_wt w_ht w_bg (u9.1) w_al (u9.2.1) w_ie w_ww w_th (u9.2.2) w_bs)) ⟨hx, hb, hml, hown, hws⟩ hK hP hD hS hA hT (c_X4_writes l D cB cI mo mb ma H.size w_zf w_nf w_hf w_cf w_sp w_pc w_on w_wt w_ht w_bg w_cn w_al w_cl w_ie w_ww w_th w_mm w_bs r4 (a2 &&& (255 : Int32))) (cwV 2 hws (gw_V mw_383 mw_384 mw_385 mw_5 mw_386) rfl rfl rfl hdX4_writes ⟨Nat.le_of_ble_eq_true rfl, Nat.le_of_ble_eq_true rfl⟩) [0, 1, 2] [] [0, 1] [0, 1, 2] rfl rfl rfl rfl (by decide) rfl (fun _ => rfl) rfl 0 rfl rfl rfl rfl hl.1 rfl (Nat.le_of_ble_eq_true rfl) dX4_setOperand_16 ⟨Nat.zero_le _, Nat.zero_le _⟩ (fun u9 H locs hw8 hP hD hS => ?_)
    obtain ⟨b5, b6, b7⟩ := u9
    have hP : va_P D vwCl (kX4 cB cI mo mb ma w_zf w_nf w_hf w_cf w_sp w_pc w_on w_wt w_ht w_bg b5 w_al b6 w_ie w_ww w_th b7 w_bs) H := hP
    have hD : va_D A (kX4 cB cI mo mb ma w_zf w_nf w_hf w_cf w_sp w_pc w_on w_wt w_ht w_bg b5 w_al b6 w_ie w_ww w_th b7 w_bs) := hD
    have hf := hf.trans (kE3 hw8)
    refine lv_goto (tgt := 33) hx hb dX4_setOperand_19 (by decide) ?_
    rw [← hQ]
    exact W.vret hx hb hr (fun t ht hW => ⟨⟨(b5, b6, b7, w_bs), rfl, hf.symm, by rw [ht]; exact hP, va_K.moved hW.alike hK, hD⟩, hS.F ht⟩) hS.2.2 dX4_setOperand_33
def fX4_adds (w_zf : Bool) (w_nf : Bool) (w_hf : Bool) (w_cf : Bool) (w_bs : Nat → Int32) (a1 : Int32) (a2 : Int32) : Bool × Bool × Bool × Bool × (Nat → Int32) := (kU1 ((w_bs (7 : Int32).toNatClampNeg)) (fun (x1 : Int32) => (kU1 (((x1 + a1) + a2)) (fun (x2 : Int32) => (kU1 (((kIf (kEq (x2 &&& (255 : Int32)) (0 : Int32)) true false) : Bool)) (fun (z4 : Bool) => (kU1 (((kIf (kLe (((x1 &&& (15 : Int32)) + (a1 &&& (15 : Int32))) + a2) (15 : Int32)) false true) : Bool)) (fun (z7 : Bool) => (kU1 (((kIf (kLe x2 (255 : Int32)) false true) : Bool)) (fun (z10 : Bool) => (kU4 (fX4_flagsAre w_zf w_nf w_hf w_cf z4 false z7 z10) (fun (b12 : Bool) (b13 : Bool) (b14 : Bool) (b15 : Bool) => (kU1 (upd w_bs (7 : Int32).toNatClampNeg (x2 &&& (255 : Int32))) (fun (f17 : Nat → Int32) => (b12, b13, b14, b15, f17)))))))))))))))
def rmX4_adds : Room := { frames := 1, cells := 0, slots := 0, locals := 24 }
def wwX4_adds : List Cond := Cond.code yX4_adds cX4_adds 5 none :: wsL_law
theorem hdX4_adds : yX4_adds.cls = RX4 ∧ yX4_adds.cls ≠ "java/lang/invoke/MethodHandle" ∧ yX4_adds.cls ≠ "java/lang/invoke/VarHandle" ∧ (parseMethodDescriptor yX4_adds.desc).map (fun d => d.parameters.length) = some 2 := by decide +kernel
set_option maxHeartbeats 4000000 in
set_option maxRecDepth 100000 in
theorem c_X4_adds (l : Launch) (D : va_G) (cB : ClassId) (cI : ClassId) (mo mb ma sz : Nat) (w_zf : Bool) (w_nf : Bool) (w_hf : Bool) (w_cf : Bool) (w_sp : Int32) (w_pc : Int32) (w_on : Bool) (w_wt : Bool) (w_ht : Bool) (w_bg : Bool) (w_cn : Int32) (w_al : Int32) (w_cl : Int32) (w_ie : Bool) (w_ww : Bool) (w_th : Int32) (w_mm : Nat → Int32) (w_bs : Nat → Int32) (a1 : Int32) (a2 : Int32)  : Met l yX4_adds wwX4_adds rmX4_adds (va_Pc [.ref mo, .int a1, .int a2] (kp D (kX4 cB cI mo mb ma w_zf w_nf w_hf w_cf w_sp w_pc w_on w_wt w_ht w_bg w_cn w_al w_cl w_ie w_ww w_th w_mm w_bs) [(cB, .byte), (cI, .int)] sz)) (va_Qv (fun (u9 : Bool × Bool × Bool × Bool × (Nat → Int32)) => u9 = fX4_adds w_zf w_nf w_hf w_cf w_bs a1 a2) (fun u9 t => kq D (kX4 cB cI mo mb ma (u9.1) (u9.2.1) (u9.2.2.1) (u9.2.2.2.1) w_sp w_pc w_on w_wt w_ht w_bg w_cn w_al w_cl w_ie w_ww w_th w_mm (u9.2.2.2.2)) [(cB, .byte), (cI, .int)] (va_A (kX4 cB cI mo mb ma w_zf w_nf w_hf w_cf w_sp w_pc w_on w_wt w_ht w_bg w_cn w_al w_cl w_ie w_ww w_th w_mm w_bs) sz) t) (va_A (kX4 cB cI mo mb ma w_zf w_nf w_hf w_cf w_sp w_pc w_on w_wt w_ht w_bg w_cn w_al w_cl w_ie w_ww w_th w_mm w_bs) sz)) 0 0 (va_A (kX4 cB cI mo mb ma w_zf w_nf w_hf w_cf w_sp w_pc w_on w_wt w_ht w_bg w_cn w_al w_cl w_ie w_ww w_th w_mm w_bs) sz) := by
  refine Met.ofW (cc := cX4_adds) (maxL := 5) (ret := none) (by decide) rfl ?_
  intro p e s m args below meth c s₁ B hml hv
  obtain ⟨rfl, hsz, hP, hK, hD0, hT⟩ := hv
  have hx := B.exec
  have hb := B.bytes
  have hr := B.returns
  have hts := atoms_spec (ws := wwX4_adds) B.pre
  have hws : ∀ w ∈ wsL_law, w.before _ s = true := fun w h => hts w (List.mem_cons_of_mem _ h)
  have hown : s.vm.findClass RX4 = some m.cls := findClass_of_methodNamed B.named
  have hlocks := B.notSynchronized
  subst hsz
  have hD := hD0.self (sz := s.heap.size)
  generalize hAe : va_A (kX4 cB cI mo mb ma w_zf w_nf w_hf w_cf w_sp w_pc w_on w_wt w_ht w_bg w_cn w_al w_cl w_ie w_ww w_th w_mm w_bs) s.heap.size = A at hD hT ⊢
  have hA : ∀ q : Nat, s.heap.size ≤ q → A q := fun q h => by rw [← hAe]; exact Or.inr h
  have hS : va_S A s.heap s.heap [] := va_S.rf
  have hl := lv_entry ([.ref mo, .int a1, .int a2]) (n := 5) (Nat.le_of_ble_eq_true rfl)
  rw [lg_entry_eq]
  generalize (lg_sl ([.ref mo, .int a1, .int a2]) ++ List.replicate (5 - (lg_sl ([.ref mo, .int a1, .int a2])).length) Slot.unset).toArray = ls at hl ⊢
  have hl : lv_has ls 5 [(0, .ref mo), (1, .int a1), (2, .int a2)] := hl
  generalize hQ : MQ _ _ _ _ _ _ _ = Q
  obtain ⟨H, hHe⟩ : ∃ H : Heap, H = s.heap := ⟨_, rfl⟩
  obtain ⟨locs, hle⟩ : ∃ L : List Loc, L = [] := ⟨_, rfl⟩
  have hP : va_P D vwCl (kX4 cB cI mo mb ma w_zf w_nf w_hf w_cf w_sp w_pc w_on w_wt w_ht w_bg w_cn w_al w_cl w_ie w_ww w_th w_mm w_bs) H := by rw [hHe]; exact hP
  have hS : va_S A s.heap H locs := by rw [hHe, hle]; exact hS
  refine kw_start hHe.symm hle.symm ?_
  have hf : fX4_adds w_zf w_nf w_hf w_cf w_bs a1 a2 = fX4_adds w_zf w_nf w_hf w_cf w_bs a1 a2 := rfl
  refine lv_aload_n hx hb dX4_adds_0 rfl (lv_at hl 0 rfl) ?_
  refine va_get (D := D) (ci := 4) (v := .ref ma) (C := RX4) (T := TX4) (N := 18) hx hb hws inlX4 hown hK hP 0 rfl rfl 1 (by decide) (hws _ mw_45) (fun _ h9 => h9) rfl dX4_adds_1 ?_
  refine lv_bipush (v := 7) hx hb dX4_adds_4 (by decide) ?_
  refine va_iald hx hb hK hP 2 1 rfl rfl (by unfold vp_in; decide) dX4_adds_6 ?_
  refine lv_topi (fun x1 ex1 => ?_)
  have hf := hf.trans (kE1 ex1)
  refine lv_istore_n (lv' := [(3, .int x1), (0, .ref mo), (1, .int a1), (2, .int a2)]) hx hb dX4_adds_7 rfl hl (by decide) rfl (fun ls hl => ?_)
  refine lv_iload_n hx hb dX4_adds_8 rfl (lv_at hl 0 rfl) ?_
  refine lv_iload_n hx hb dX4_adds_9 rfl (lv_at hl 2 rfl) ?_
  refine lv_iadd hx hb dX4_adds_10 ?_
  refine lv_iload_n hx hb dX4_adds_11 rfl (lv_at hl 3 rfl) ?_
  refine lv_iadd hx hb dX4_adds_12 ?_
  refine lv_topi (fun x2 ex2 => ?_)
  have hf := hf.trans (kE1 ex2)
  refine lv_istore (lv' := [(4, .int x2), (3, .int x1), (0, .ref mo), (1, .int a1), (2, .int a2)]) hx hb dX4_adds_13 hl (by decide) rfl (fun ls hl => ?_)
  refine lv_aload_n hx hb dX4_adds_15 rfl (lv_at hl 2 rfl) ?_
  refine lv_iload hx hb dX4_adds_16 (lv_at hl 0 rfl) ?_
  refine lv_sipush (v := 255) hx hb dX4_adds_18 (by decide) ?_
  refine lv_iand hx hb dX4_adds_21 ?_
  obtain ⟨TJ5, hTJ5⟩ : ∃ T9 : Bool, T9 = (kIf (kEq (x2 &&& (255 : Int32)) (0 : Int32)) true false) := ⟨_, rfl⟩
  have J5 : ∀ (z4 : Bool), z4 = TJ5 → ∀ (H : Heap) (locs : List Loc) (ls : Array Slot), lv_has ls 5 [(4, .int x2), (3, .int x1), (0, .ref mo), (1, .int a1), (2, .int a2)] → va_P D vwCl (kX4 cB cI mo mb ma w_zf w_nf w_hf w_cf w_sp w_pc w_on w_wt w_ht w_bg w_cn w_al w_cl w_ie w_ww w_th w_mm w_bs) H → va_D A (kX4 cB cI mo mb ma w_zf w_nf w_hf w_cf w_sp w_pc w_on w_wt w_ht w_bg w_cn w_al w_cl w_ie w_ww w_th w_mm w_bs) → va_S A s.heap H locs → W p l e (headSpec wwX4_adds rmX4_adds).room s m ([.ref mo, .int a1, .int a2] : List Value).toArray below meth c H locs 0 0 Q (F0 m 30 ls [.int (bI z4), .ref mo]) := by
    intro z4 eJ5 H locs ls hl hP hD hS
    have hf := hf.trans (kE1 (eJ5.trans hTJ5))
    refine lv_iconst (v := 0) hx hb dX4_adds_30 (by decide) ?_
    refine lv_iload_n hx hb dX4_adds_31 rfl (lv_at hl 1 rfl) ?_
    refine lv_bipush (v := 15) hx hb dX4_adds_32 (by decide) ?_
    refine lv_iand hx hb dX4_adds_34 ?_
    refine lv_iload_n hx hb dX4_adds_35 rfl (lv_at hl 3 rfl) ?_
    refine lv_bipush (v := 15) hx hb dX4_adds_36 (by decide) ?_
    refine lv_iand hx hb dX4_adds_38 ?_
    refine lv_iadd hx hb dX4_adds_39 ?_
    refine lv_iload_n hx hb dX4_adds_40 rfl (lv_at hl 4 rfl) ?_
    refine lv_iadd hx hb dX4_adds_41 ?_
    refine lv_bipush (v := 15) hx hb dX4_adds_42 (by decide) ?_
    obtain ⟨TJ8, hTJ8⟩ : ∃ T9 : Bool, T9 = (kIf (kLe (((x1 &&& (15 : Int32)) + (a1 &&& (15 : Int32))) + a2) (15 : Int32)) false true) := ⟨_, rfl⟩
    have J8 : ∀ (z7 : Bool), z7 = TJ8 → ∀ (H : Heap) (locs : List Loc) (ls : Array Slot), lv_has ls 5 [(4, .int x2), (3, .int x1), (0, .ref mo), (1, .int a1), (2, .int a2)] → va_P D vwCl (kX4 cB cI mo mb ma w_zf w_nf w_hf w_cf w_sp w_pc w_on w_wt w_ht w_bg w_cn w_al w_cl w_ie w_ww w_th w_mm w_bs) H → va_D A (kX4 cB cI mo mb ma w_zf w_nf w_hf w_cf w_sp w_pc w_on w_wt w_ht w_bg w_cn w_al w_cl w_ie w_ww w_th w_mm w_bs) → va_S A s.heap H locs → W p l e (headSpec wwX4_adds rmX4_adds).room s m ([.ref mo, .int a1, .int a2] : List Value).toArray below meth c H locs 0 0 Q (F0 m 52 ls [.int (bI z7), .int (0 : Int32), .int (bI z4), .ref mo]) := by
      intro z7 eJ8 H locs ls hl hP hD hS
      have hf := hf.trans (kE1 (eJ8.trans hTJ8))
      refine lv_iload hx hb dX4_adds_52 (lv_at hl 0 rfl) ?_
      refine lv_sipush (v := 255) hx hb dX4_adds_54 (by decide) ?_
      obtain ⟨TJ11, hTJ11⟩ : ∃ T9 : Bool, T9 = (kIf (kLe x2 (255 : Int32)) false true) := ⟨_, rfl⟩
      have J11 : ∀ (z10 : Bool), z10 = TJ11 → ∀ (H : Heap) (locs : List Loc) (ls : Array Slot), lv_has ls 5 [(4, .int x2), (3, .int x1), (0, .ref mo), (1, .int a1), (2, .int a2)] → va_P D vwCl (kX4 cB cI mo mb ma w_zf w_nf w_hf w_cf w_sp w_pc w_on w_wt w_ht w_bg w_cn w_al w_cl w_ie w_ww w_th w_mm w_bs) H → va_D A (kX4 cB cI mo mb ma w_zf w_nf w_hf w_cf w_sp w_pc w_on w_wt w_ht w_bg w_cn w_al w_cl w_ie w_ww w_th w_mm w_bs) → va_S A s.heap H locs → W p l e (headSpec wwX4_adds rmX4_adds).room s m ([.ref mo, .int a1, .int a2] : List Value).toArray below meth c H locs 0 0 Q (F0 m 65 ls [.int (bI z10), .int (bI z7), .int (0 : Int32), .int (bI z4), .ref mo]) := by
        intro z10 eJ11 H locs ls hl hP hD hS
        have hf := hf.trans (kE1 (eJ11.trans hTJ11))
        refine kc_Vv (wr := []) (As := [.int (bI z4), .int (bI false), .int (bI z7), .int (bI z10)]) (rest := []) (fun u9 => (kX4 cB cI mo mb ma (u9.1) (u9.2.1) (u9.2.2.1) (u9.2.2.2) w_sp w_pc w_on w_wt w_ht w_bg w_cn w_al w_cl w_ie w_ww w_th w_mm w_bs)) ⟨hx, hb, hml, hown, hws⟩ hK hP hD hS hA hT (c_X4_flagsAre l D cB cI mo mb ma H.size w_zf w_nf w_hf w_cf w_sp w_pc w_on w_wt w_ht w_bg w_cn w_al w_cl w_ie w_ww w_th w_mm w_bs z4 false z7 z10) (cwV 4 hws (gw_V mw_448 mw_449 mw_450 mw_5 mw_451) rfl rfl rfl hdX4_flagsAre ⟨Nat.le_of_ble_eq_true rfl, Nat.le_of_ble_eq_true rfl⟩) [0, 1, 2] [] [0, 1] [0, 1, 2] rfl rfl rfl rfl (by decide) rfl (fun _ => rfl) rfl 0 rfl rfl rfl rfl hl.1 rfl (Nat.le_of_ble_eq_true rfl) dX4_adds_65 ⟨Nat.zero_le _, Nat.zero_le _⟩ (fun u9 H locs hw16 hP hD hS => ?_)
        obtain ⟨b12, b13, b14, b15⟩ := u9
        have hP : va_P D vwCl (kX4 cB cI mo mb ma b12 b13 b14 b15 w_sp w_pc w_on w_wt w_ht w_bg w_cn w_al w_cl w_ie w_ww w_th w_mm w_bs) H := hP
        have hD : va_D A (kX4 cB cI mo mb ma b12 b13 b14 b15 w_sp w_pc w_on w_wt w_ht w_bg w_cn w_al w_cl w_ie w_ww w_th w_mm w_bs) := hD
        have hf := hf.trans (kE4 hw16)
        refine lv_aload_n hx hb dX4_adds_68 rfl (lv_at hl 2 rfl) ?_
        refine va_get (D := D) (ci := 4) (v := .ref ma) (C := RX4) (T := TX4) (N := 18) hx hb hws inlX4 hown hK hP 0 rfl rfl 1 (by decide) (hws _ mw_45) (fun _ h9 => h9) rfl dX4_adds_69 ?_
        refine lv_bipush (v := 7) hx hb dX4_adds_72 (by decide) ?_
        refine lv_iload hx hb dX4_adds_74 (lv_at hl 0 rfl) ?_
        refine lv_sipush (v := 255) hx hb dX4_adds_76 (by decide) ?_
        refine lv_iand hx hb dX4_adds_79 ?_
        refine va_iast hx hb hK hP hD hS 2 1 rfl rfl (by unfold vp_in; decide) dX4_adds_80 (fun H locs hP hD hS => ?_)
        obtain ⟨f17, ef17⟩ : ∃ f9 : Nat → Int32, f9 = upd w_bs (7 : Int32).toNatClampNeg (x2 &&& (255 : Int32)) := ⟨_, rfl⟩
        have hf := hf.trans (kE1 ef17)
        have hP : va_P D vwCl (kX4 cB cI mo mb ma b12 b13 b14 b15 w_sp w_pc w_on w_wt w_ht w_bg w_cn w_al w_cl w_ie w_ww w_th w_mm f17) H := by rw [ef17]; exact hP
        have hD : va_D A (kX4 cB cI mo mb ma b12 b13 b14 b15 w_sp w_pc w_on w_wt w_ht w_bg w_cn w_al w_cl w_ie w_ww w_th w_mm f17) := by rw [ef17]; exact hD
        rw [← hQ]
        exact W.vret hx hb hr (fun t ht hW => ⟨⟨(b12, b13, b14, b15, f17), rfl, hf.symm, by rw [ht]; exact hP, va_K.moved hW.alike hK, hD⟩, hS.F ht⟩) hS.2.2 dX4_adds_81
      have hf := hTJ11
      refine lv_icmp_le (tgt := 64) hx hb dX4_adds_57 (by decide) (fun c9 => ?_) (fun c9 => ?_)
      · have hf := hf.trans (kt_le c9)
        refine lv_iconst (v := 0) hx hb dX4_adds_64 (by decide) ?_
        exact J11 false hf.symm H locs ls (lv_sub hl [0, 1, 2, 3, 4] rfl) hP hD hS
      · have hf := hf.trans (kf_le c9)
        refine lv_iconst (v := 1) hx hb dX4_adds_60 (by decide) ?_
        refine lv_goto (tgt := 65) hx hb dX4_adds_61 (by decide) ?_
        exact J11 true hf.symm H locs ls (lv_sub hl [0, 1, 2, 3, 4] rfl) hP hD hS
    have hf := hTJ8
    refine lv_icmp_le (tgt := 51) hx hb dX4_adds_44 (by decide) (fun c6 => ?_) (fun c6 => ?_)
    · have hf := hf.trans (kt_le c6)
      refine lv_iconst (v := 0) hx hb dX4_adds_51 (by decide) ?_
      exact J8 false hf.symm H locs ls (lv_sub hl [0, 1, 2, 3, 4] rfl) hP hD hS
    · have hf := hf.trans (kf_le c6)
      refine lv_iconst (v := 1) hx hb dX4_adds_47 (by decide) ?_
      refine lv_goto (tgt := 52) hx hb dX4_adds_48 (by decide) ?_
      exact J8 true hf.symm H locs ls (lv_sub hl [0, 1, 2, 3, 4] rfl) hP hD hS
  have hf := hTJ5
  refine lv_if_ne (tgt := 29) hx hb dX4_adds_22 (by decide) (fun c3 => ?_) (fun c3 => ?_)
  · have hf := hf.trans (kf_eq c3)
    refine lv_iconst (v := 0) hx hb dX4_adds_29 (by decide) ?_
    exact J5 false hf.symm H locs ls (lv_sub hl [0, 1, 2, 3, 4] rfl) hP hD hS
  · have hf := hf.trans (kt_eq c3)
    refine lv_iconst (v := 1) hx hb dX4_adds_25 (by decide) ?_
    refine lv_goto (tgt := 30) hx hb dX4_adds_26 (by decide) ?_
    exact J5 true hf.symm H locs ls (lv_sub hl [0, 1, 2, 3, 4] rfl) hP hD hS
def fX4_less (w_zf : Bool) (w_nf : Bool) (w_hf : Bool) (w_cf : Bool) (w_bs : Nat → Int32) (a1 : Int32) (a2 : Int32) : Int32 × Bool × Bool × Bool × Bool := (kU1 ((w_bs (7 : Int32).toNatClampNeg)) (fun (x1 : Int32) => (kU1 (((x1 - a1) - a2)) (fun (x2 : Int32) => (kU1 (((kIf (kEq (x2 &&& (255 : Int32)) (0 : Int32)) true false) : Bool)) (fun (z4 : Bool) => (kU1 (((kIf (kLe (0 : Int32) (((x1 &&& (15 : Int32)) - (a1 &&& (15 : Int32))) - a2)) false true) : Bool)) (fun (z7 : Bool) => (kU1 (((kIf (kLe (0 : Int32) x2) false true) : Bool)) (fun (z10 : Bool) => (kU4 (fX4_flagsAre w_zf w_nf w_hf w_cf z4 true z7 z10) (fun (b12 : Bool) (b13 : Bool) (b14 : Bool) (b15 : Bool) => ((x2 &&& (255 : Int32)), b12, b13, b14, b15)))))))))))))
def rmX4_less : Room := { frames := 1, cells := 0, slots := 0, locals := 24 }
def wwX4_less : List Cond := Cond.code yX4_less cX4_less 5 (some .int) :: wsL_law
theorem hdX4_less : yX4_less.cls = RX4 ∧ yX4_less.cls ≠ "java/lang/invoke/MethodHandle" ∧ yX4_less.cls ≠ "java/lang/invoke/VarHandle" ∧ (parseMethodDescriptor yX4_less.desc).map (fun d => d.parameters.length) = some 2 := by decide +kernel
set_option maxHeartbeats 4000000 in
set_option maxRecDepth 100000 in
theorem c_X4_less (l : Launch) (D : va_G) (cB : ClassId) (cI : ClassId) (mo mb ma sz : Nat) (w_zf : Bool) (w_nf : Bool) (w_hf : Bool) (w_cf : Bool) (w_sp : Int32) (w_pc : Int32) (w_on : Bool) (w_wt : Bool) (w_ht : Bool) (w_bg : Bool) (w_cn : Int32) (w_al : Int32) (w_cl : Int32) (w_ie : Bool) (w_ww : Bool) (w_th : Int32) (w_mm : Nat → Int32) (w_bs : Nat → Int32) (a1 : Int32) (a2 : Int32)  : Met l yX4_less wwX4_less rmX4_less (va_Pc [.ref mo, .int a1, .int a2] (kp D (kX4 cB cI mo mb ma w_zf w_nf w_hf w_cf w_sp w_pc w_on w_wt w_ht w_bg w_cn w_al w_cl w_ie w_ww w_th w_mm w_bs) [(cB, .byte), (cI, .int)] sz)) (va_Qi (fun (r : Int32) (u9 : Bool × Bool × Bool × Bool) => (r, u9) = fX4_less w_zf w_nf w_hf w_cf w_bs a1 a2) (fun u9 t => kq D (kX4 cB cI mo mb ma (u9.1) (u9.2.1) (u9.2.2.1) (u9.2.2.2) w_sp w_pc w_on w_wt w_ht w_bg w_cn w_al w_cl w_ie w_ww w_th w_mm w_bs) [(cB, .byte), (cI, .int)] (va_A (kX4 cB cI mo mb ma w_zf w_nf w_hf w_cf w_sp w_pc w_on w_wt w_ht w_bg w_cn w_al w_cl w_ie w_ww w_th w_mm w_bs) sz) t) (va_A (kX4 cB cI mo mb ma w_zf w_nf w_hf w_cf w_sp w_pc w_on w_wt w_ht w_bg w_cn w_al w_cl w_ie w_ww w_th w_mm w_bs) sz)) 0 0 (va_A (kX4 cB cI mo mb ma w_zf w_nf w_hf w_cf w_sp w_pc w_on w_wt w_ht w_bg w_cn w_al w_cl w_ie w_ww w_th w_mm w_bs) sz) := by
  refine Met.ofW (cc := cX4_less) (maxL := 5) (ret := (some .int)) (by decide) rfl ?_
  intro p e s m args below meth c s₁ B hml hv
  obtain ⟨rfl, hsz, hP, hK, hD0, hT⟩ := hv
  have hx := B.exec
  have hb := B.bytes
  have hr := B.returns
  have hts := atoms_spec (ws := wwX4_less) B.pre
  have hws : ∀ w ∈ wsL_law, w.before _ s = true := fun w h => hts w (List.mem_cons_of_mem _ h)
  have hown : s.vm.findClass RX4 = some m.cls := findClass_of_methodNamed B.named
  have hlocks := B.notSynchronized
  subst hsz
  have hD := hD0.self (sz := s.heap.size)
  generalize hAe : va_A (kX4 cB cI mo mb ma w_zf w_nf w_hf w_cf w_sp w_pc w_on w_wt w_ht w_bg w_cn w_al w_cl w_ie w_ww w_th w_mm w_bs) s.heap.size = A at hD hT ⊢
  have hA : ∀ q : Nat, s.heap.size ≤ q → A q := fun q h => by rw [← hAe]; exact Or.inr h
  have hS : va_S A s.heap s.heap [] := va_S.rf
  have hl := lv_entry ([.ref mo, .int a1, .int a2]) (n := 5) (Nat.le_of_ble_eq_true rfl)
  rw [lg_entry_eq]
  generalize (lg_sl ([.ref mo, .int a1, .int a2]) ++ List.replicate (5 - (lg_sl ([.ref mo, .int a1, .int a2])).length) Slot.unset).toArray = ls at hl ⊢
  have hl : lv_has ls 5 [(0, .ref mo), (1, .int a1), (2, .int a2)] := hl
  generalize hQ : MQ _ _ _ _ _ _ _ = Q
  obtain ⟨H, hHe⟩ : ∃ H : Heap, H = s.heap := ⟨_, rfl⟩
  obtain ⟨locs, hle⟩ : ∃ L : List Loc, L = [] := ⟨_, rfl⟩
  have hP : va_P D vwCl (kX4 cB cI mo mb ma w_zf w_nf w_hf w_cf w_sp w_pc w_on w_wt w_ht w_bg w_cn w_al w_cl w_ie w_ww w_th w_mm w_bs) H := by rw [hHe]; exact hP
  have hS : va_S A s.heap H locs := by rw [hHe, hle]; exact hS
  refine kw_start hHe.symm hle.symm ?_
  have hf : fX4_less w_zf w_nf w_hf w_cf w_bs a1 a2 = fX4_less w_zf w_nf w_hf w_cf w_bs a1 a2 := rfl
  refine lv_aload_n hx hb dX4_less_0 rfl (lv_at hl 0 rfl) ?_
  refine va_get (D := D) (ci := 4) (v := .ref ma) (C := RX4) (T := TX4) (N := 18) hx hb hws inlX4 hown hK hP 0 rfl rfl 1 (by decide) (hws _ mw_45) (fun _ h9 => h9) rfl dX4_less_1 ?_
  refine lv_bipush (v := 7) hx hb dX4_less_4 (by decide) ?_
  refine va_iald hx hb hK hP 2 1 rfl rfl (by unfold vp_in; decide) dX4_less_6 ?_
  refine lv_topi (fun x1 ex1 => ?_)
  have hf := hf.trans (kE1 ex1)
  refine lv_istore_n (lv' := [(3, .int x1), (0, .ref mo), (1, .int a1), (2, .int a2)]) hx hb dX4_less_7 rfl hl (by decide) rfl (fun ls hl => ?_)
  refine lv_iload_n hx hb dX4_less_8 rfl (lv_at hl 0 rfl) ?_
  refine lv_iload_n hx hb dX4_less_9 rfl (lv_at hl 2 rfl) ?_
  refine lv_isub hx hb dX4_less_10 ?_
  refine lv_iload_n hx hb dX4_less_11 rfl (lv_at hl 3 rfl) ?_
  refine lv_isub hx hb dX4_less_12 ?_
  refine lv_topi (fun x2 ex2 => ?_)
  have hf := hf.trans (kE1 ex2)
  refine lv_istore (lv' := [(4, .int x2), (3, .int x1), (0, .ref mo), (1, .int a1), (2, .int a2)]) hx hb dX4_less_13 hl (by decide) rfl (fun ls hl => ?_)
  refine lv_aload_n hx hb dX4_less_15 rfl (lv_at hl 2 rfl) ?_
  refine lv_iload hx hb dX4_less_16 (lv_at hl 0 rfl) ?_
  refine lv_sipush (v := 255) hx hb dX4_less_18 (by decide) ?_
  refine lv_iand hx hb dX4_less_21 ?_
  obtain ⟨TJ5, hTJ5⟩ : ∃ T9 : Bool, T9 = (kIf (kEq (x2 &&& (255 : Int32)) (0 : Int32)) true false) := ⟨_, rfl⟩
  have J5 : ∀ (z4 : Bool), z4 = TJ5 → ∀ (H : Heap) (locs : List Loc) (ls : Array Slot), lv_has ls 5 [(4, .int x2), (3, .int x1), (0, .ref mo), (1, .int a1), (2, .int a2)] → va_P D vwCl (kX4 cB cI mo mb ma w_zf w_nf w_hf w_cf w_sp w_pc w_on w_wt w_ht w_bg w_cn w_al w_cl w_ie w_ww w_th w_mm w_bs) H → va_D A (kX4 cB cI mo mb ma w_zf w_nf w_hf w_cf w_sp w_pc w_on w_wt w_ht w_bg w_cn w_al w_cl w_ie w_ww w_th w_mm w_bs) → va_S A s.heap H locs → W p l e (headSpec wwX4_less rmX4_less).room s m ([.ref mo, .int a1, .int a2] : List Value).toArray below meth c H locs 0 0 Q (F0 m 30 ls [.int (bI z4), .ref mo]) := by
    intro z4 eJ5 H locs ls hl hP hD hS
    have hf := hf.trans (kE1 (eJ5.trans hTJ5))
    refine lv_iconst (v := 1) hx hb dX4_less_30 (by decide) ?_
    refine lv_iload_n hx hb dX4_less_31 rfl (lv_at hl 1 rfl) ?_
    refine lv_bipush (v := 15) hx hb dX4_less_32 (by decide) ?_
    refine lv_iand hx hb dX4_less_34 ?_
    refine lv_iload_n hx hb dX4_less_35 rfl (lv_at hl 3 rfl) ?_
    refine lv_bipush (v := 15) hx hb dX4_less_36 (by decide) ?_
    refine lv_iand hx hb dX4_less_38 ?_
    refine lv_isub hx hb dX4_less_39 ?_
    refine lv_iload_n hx hb dX4_less_40 rfl (lv_at hl 4 rfl) ?_
    refine lv_isub hx hb dX4_less_41 ?_
    obtain ⟨TJ8, hTJ8⟩ : ∃ T9 : Bool, T9 = (kIf (kLe (0 : Int32) (((x1 &&& (15 : Int32)) - (a1 &&& (15 : Int32))) - a2)) false true) := ⟨_, rfl⟩
    have J8 : ∀ (z7 : Bool), z7 = TJ8 → ∀ (H : Heap) (locs : List Loc) (ls : Array Slot), lv_has ls 5 [(4, .int x2), (3, .int x1), (0, .ref mo), (1, .int a1), (2, .int a2)] → va_P D vwCl (kX4 cB cI mo mb ma w_zf w_nf w_hf w_cf w_sp w_pc w_on w_wt w_ht w_bg w_cn w_al w_cl w_ie w_ww w_th w_mm w_bs) H → va_D A (kX4 cB cI mo mb ma w_zf w_nf w_hf w_cf w_sp w_pc w_on w_wt w_ht w_bg w_cn w_al w_cl w_ie w_ww w_th w_mm w_bs) → va_S A s.heap H locs → W p l e (headSpec wwX4_less rmX4_less).room s m ([.ref mo, .int a1, .int a2] : List Value).toArray below meth c H locs 0 0 Q (F0 m 50 ls [.int (bI z7), .int (1 : Int32), .int (bI z4), .ref mo]) := by
      intro z7 eJ8 H locs ls hl hP hD hS
      have hf := hf.trans (kE1 (eJ8.trans hTJ8))
      refine lv_iload hx hb dX4_less_50 (lv_at hl 0 rfl) ?_
      obtain ⟨TJ11, hTJ11⟩ : ∃ T9 : Bool, T9 = (kIf (kLe (0 : Int32) x2) false true) := ⟨_, rfl⟩
      have J11 : ∀ (z10 : Bool), z10 = TJ11 → ∀ (H : Heap) (locs : List Loc) (ls : Array Slot), lv_has ls 5 [(4, .int x2), (3, .int x1), (0, .ref mo), (1, .int a1), (2, .int a2)] → va_P D vwCl (kX4 cB cI mo mb ma w_zf w_nf w_hf w_cf w_sp w_pc w_on w_wt w_ht w_bg w_cn w_al w_cl w_ie w_ww w_th w_mm w_bs) H → va_D A (kX4 cB cI mo mb ma w_zf w_nf w_hf w_cf w_sp w_pc w_on w_wt w_ht w_bg w_cn w_al w_cl w_ie w_ww w_th w_mm w_bs) → va_S A s.heap H locs → W p l e (headSpec wwX4_less rmX4_less).room s m ([.ref mo, .int a1, .int a2] : List Value).toArray below meth c H locs 0 0 Q (F0 m 60 ls [.int (bI z10), .int (bI z7), .int (1 : Int32), .int (bI z4), .ref mo]) := by
        intro z10 eJ11 H locs ls hl hP hD hS
        have hf := hf.trans (kE1 (eJ11.trans hTJ11))
        refine kc_Vv (wr := []) (As := [.int (bI z4), .int (bI true), .int (bI z7), .int (bI z10)]) (rest := []) (fun u9 => (kX4 cB cI mo mb ma (u9.1) (u9.2.1) (u9.2.2.1) (u9.2.2.2) w_sp w_pc w_on w_wt w_ht w_bg w_cn w_al w_cl w_ie w_ww w_th w_mm w_bs)) ⟨hx, hb, hml, hown, hws⟩ hK hP hD hS hA hT (c_X4_flagsAre l D cB cI mo mb ma H.size w_zf w_nf w_hf w_cf w_sp w_pc w_on w_wt w_ht w_bg w_cn w_al w_cl w_ie w_ww w_th w_mm w_bs z4 true z7 z10) (cwV 4 hws (gw_V mw_448 mw_449 mw_450 mw_5 mw_451) rfl rfl rfl hdX4_flagsAre ⟨Nat.le_of_ble_eq_true rfl, Nat.le_of_ble_eq_true rfl⟩) [0, 1, 2] [] [0, 1] [0, 1, 2] rfl rfl rfl rfl (by decide) rfl (fun _ => rfl) rfl 0 rfl rfl rfl rfl hl.1 rfl (Nat.le_of_ble_eq_true rfl) dX4_less_60 ⟨Nat.zero_le _, Nat.zero_le _⟩ (fun u9 H locs hw16 hP hD hS => ?_)
        obtain ⟨b12, b13, b14, b15⟩ := u9
        have hP : va_P D vwCl (kX4 cB cI mo mb ma b12 b13 b14 b15 w_sp w_pc w_on w_wt w_ht w_bg w_cn w_al w_cl w_ie w_ww w_th w_mm w_bs) H := hP
        have hD : va_D A (kX4 cB cI mo mb ma b12 b13 b14 b15 w_sp w_pc w_on w_wt w_ht w_bg w_cn w_al w_cl w_ie w_ww w_th w_mm w_bs) := hD
        have hf := hf.trans (kE4 hw16)
        refine lv_iload hx hb dX4_less_63 (lv_at hl 0 rfl) ?_
        refine lv_sipush (v := 255) hx hb dX4_less_65 (by decide) ?_
        refine lv_iand hx hb dX4_less_68 ?_
        rw [← hQ]
        exact W.iret (v := (x2 &&& (255 : Int32))) hx hb hr (fun t ht hW => ⟨⟨(x2 &&& (255 : Int32)), (b12, b13, b14, b15), rfl, hf.symm, by rw [ht]; exact hP, va_K.moved hW.alike hK, hD⟩, hS.F ht⟩) hS.2.2 dX4_less_69
      have hf := hTJ11
      refine lv_if_ge (tgt := 59) hx hb dX4_less_52 (by decide) (fun c9 => ?_) (fun c9 => ?_)
      · have hf := hf.trans (kt_le c9)
        refine lv_iconst (v := 0) hx hb dX4_less_59 (by decide) ?_
        exact J11 false hf.symm H locs ls (lv_sub hl [0, 1, 2, 3, 4] rfl) hP hD hS
      · have hf := hf.trans (kf_le c9)
        refine lv_iconst (v := 1) hx hb dX4_less_55 (by decide) ?_
        refine lv_goto (tgt := 60) hx hb dX4_less_56 (by decide) ?_
        exact J11 true hf.symm H locs ls (lv_sub hl [0, 1, 2, 3, 4] rfl) hP hD hS
    have hf := hTJ8
    refine lv_if_ge (tgt := 49) hx hb dX4_less_42 (by decide) (fun c6 => ?_) (fun c6 => ?_)
    · have hf := hf.trans (kt_le c6)
      refine lv_iconst (v := 0) hx hb dX4_less_49 (by decide) ?_
      exact J8 false hf.symm H locs ls (lv_sub hl [0, 1, 2, 3, 4] rfl) hP hD hS
    · have hf := hf.trans (kf_le c6)
      refine lv_iconst (v := 1) hx hb dX4_less_45 (by decide) ?_
      refine lv_goto (tgt := 50) hx hb dX4_less_46 (by decide) ?_
      exact J8 true hf.symm H locs ls (lv_sub hl [0, 1, 2, 3, 4] rfl) hP hD hS
  have hf := hTJ5
  refine lv_if_ne (tgt := 29) hx hb dX4_less_22 (by decide) (fun c3 => ?_) (fun c3 => ?_)
  · have hf := hf.trans (kf_eq c3)
    refine lv_iconst (v := 0) hx hb dX4_less_29 (by decide) ?_
    exact J5 false hf.symm H locs ls (lv_sub hl [0, 1, 2, 3, 4] rfl) hP hD hS
  · have hf := hf.trans (kt_eq c3)
    refine lv_iconst (v := 1) hx hb dX4_less_25 (by decide) ?_
    refine lv_goto (tgt := 30) hx hb dX4_less_26 (by decide) ?_
    exact J5 true hf.symm H locs ls (lv_sub hl [0, 1, 2, 3, 4] rfl) hP hD hS
def fX4_sums (w_zf : Bool) (w_nf : Bool) (w_hf : Bool) (w_cf : Bool) (w_bs : Nat → Int32) (a1 : Int32) (a2 : Int32) : Bool × Bool × Bool × Bool × (Nat → Int32) := (kU1 (((kIf (kEq (bI w_cf) (0 : Int32)) false true) : Bool)) (fun (z2 : Bool) => (kIf (kEq a1 (0 : Int32)) (kU5 (fX4_adds w_zf w_nf w_hf w_cf w_bs a2 (0 : Int32)) (fun (b5 : Bool) (b6 : Bool) (b7 : Bool) (b8 : Bool) (b9 : Nat → Int32) => (b5, b6, b7, b8, b9))) (kIf (kEq a1 (1 : Int32)) (kU5 (fX4_adds w_zf w_nf w_hf w_cf w_bs a2 (bI z2)) (fun (b12 : Bool) (b13 : Bool) (b14 : Bool) (b15 : Bool) (b16 : Nat → Int32) => (b12, b13, b14, b15, b16))) (kIf (kEq a1 (2 : Int32)) (kU5 (fX4_less w_zf w_nf w_hf w_cf w_bs a2 (0 : Int32)) (fun (r24 : Int32) (b19 : Bool) (b20 : Bool) (b21 : Bool) (b22 : Bool) => (kU1 (upd w_bs (7 : Int32).toNatClampNeg r24) (fun (f25 : Nat → Int32) => (b19, b20, b21, b22, f25))))) (kIf (kEq a1 (3 : Int32)) (kU5 (fX4_less w_zf w_nf w_hf w_cf w_bs a2 (bI z2)) (fun (r32 : Int32) (b27 : Bool) (b28 : Bool) (b29 : Bool) (b30 : Bool) => (kU1 (upd w_bs (7 : Int32).toNatClampNeg r32) (fun (f33 : Nat → Int32) => (b27, b28, b29, b30, f33))))) (kIf (kEq a1 (4 : Int32)) (kU1 (upd w_bs (7 : Int32).toNatClampNeg ((w_bs (7 : Int32).toNatClampNeg) &&& a2)) (fun (f35 : Nat → Int32) => (kU1 (((kIf (kEq (f35 (7 : Int32).toNatClampNeg) (0 : Int32)) true false) : Bool)) (fun (z37 : Bool) => (kU4 (fX4_flagsAre w_zf w_nf w_hf w_cf z37 false true false) (fun (b39 : Bool) (b40 : Bool) (b41 : Bool) (b42 : Bool) => (b39, b40, b41, b42, f35))))))) (kIf (kEq a1 (5 : Int32)) (kU1 (upd w_bs (7 : Int32).toNatClampNeg ((w_bs (7 : Int32).toNatClampNeg) ^^^ a2)) (fun (f45 : Nat → Int32) => (kU1 (((kIf (kEq (f45 (7 : Int32).toNatClampNeg) (0 : Int32)) true false) : Bool)) (fun (z47 : Bool) => (kU4 (fX4_flagsAre w_zf w_nf w_hf w_cf z47 false false false) (fun (b49 : Bool) (b50 : Bool) (b51 : Bool) (b52 : Bool) => (b49, b50, b51, b52, f45))))))) (kIf (kEq a1 (6 : Int32)) (kU1 (upd w_bs (7 : Int32).toNatClampNeg ((w_bs (7 : Int32).toNatClampNeg) ||| a2)) (fun (f55 : Nat → Int32) => (kU1 (((kIf (kEq (f55 (7 : Int32).toNatClampNeg) (0 : Int32)) true false) : Bool)) (fun (z57 : Bool) => (kU4 (fX4_flagsAre w_zf w_nf w_hf w_cf z57 false false false) (fun (b59 : Bool) (b60 : Bool) (b61 : Bool) (b62 : Bool) => (b59, b60, b61, b62, f55))))))) (kU5 (fX4_less w_zf w_nf w_hf w_cf w_bs a2 (0 : Int32)) (fun (r69 : Int32) (b64 : Bool) (b65 : Bool) (b66 : Bool) (b67 : Bool) => (b64, b65, b66, b67, w_bs))))))))))))
def rmX4_sums : Room := { frames := 2, cells := 0, slots := 0, locals := 48 }
def wwX4_sums : List Cond := Cond.code yX4_sums cX4_sums 5 none :: wsL_law
theorem hdX4_sums : yX4_sums.cls = RX4 ∧ yX4_sums.cls ≠ "java/lang/invoke/MethodHandle" ∧ yX4_sums.cls ≠ "java/lang/invoke/VarHandle" ∧ (parseMethodDescriptor yX4_sums.desc).map (fun d => d.parameters.length) = some 2 := by decide +kernel
set_option maxHeartbeats 4000000 in
set_option maxRecDepth 100000 in
theorem c_X4_sums (l : Launch) (D : va_G) (cB : ClassId) (cI : ClassId) (mo mb ma sz : Nat) (w_zf : Bool) (w_nf : Bool) (w_hf : Bool) (w_cf : Bool) (w_sp : Int32) (w_pc : Int32) (w_on : Bool) (w_wt : Bool) (w_ht : Bool) (w_bg : Bool) (w_cn : Int32) (w_al : Int32) (w_cl : Int32) (w_ie : Bool) (w_ww : Bool) (w_th : Int32) (w_mm : Nat → Int32) (w_bs : Nat → Int32) (a1 : Int32) (a2 : Int32)  : Met l yX4_sums wwX4_sums rmX4_sums (va_Pc [.ref mo, .int a1, .int a2] (kp D (kX4 cB cI mo mb ma w_zf w_nf w_hf w_cf w_sp w_pc w_on w_wt w_ht w_bg w_cn w_al w_cl w_ie w_ww w_th w_mm w_bs) [(cB, .byte), (cI, .int)] sz)) (va_Qv (fun (u9 : Bool × Bool × Bool × Bool × (Nat → Int32)) => u9 = fX4_sums w_zf w_nf w_hf w_cf w_bs a1 a2) (fun u9 t => kq D (kX4 cB cI mo mb ma (u9.1) (u9.2.1) (u9.2.2.1) (u9.2.2.2.1) w_sp w_pc w_on w_wt w_ht w_bg w_cn w_al w_cl w_ie w_ww w_th w_mm (u9.2.2.2.2)) [(cB, .byte), (cI, .int)] (va_A (kX4 cB cI mo mb ma w_zf w_nf w_hf w_cf w_sp w_pc w_on w_wt w_ht w_bg w_cn w_al w_cl w_ie w_ww w_th w_mm w_bs) sz) t) (va_A (kX4 cB cI mo mb ma w_zf w_nf w_hf w_cf w_sp w_pc w_on w_wt w_ht w_bg w_cn w_al w_cl w_ie w_ww w_th w_mm w_bs) sz)) 0 0 (va_A (kX4 cB cI mo mb ma w_zf w_nf w_hf w_cf w_sp w_pc w_on w_wt w_ht w_bg w_cn w_al w_cl w_ie w_ww w_th w_mm w_bs) sz) := by
  refine Met.ofW (cc := cX4_sums) (maxL := 5) (ret := none) (by decide) rfl ?_
  intro p e s m args below meth c s₁ B hml hv
  obtain ⟨rfl, hsz, hP, hK, hD0, hT⟩ := hv
  have hx := B.exec
  have hb := B.bytes
  have hr := B.returns
  have hts := atoms_spec (ws := wwX4_sums) B.pre
  have hws : ∀ w ∈ wsL_law, w.before _ s = true := fun w h => hts w (List.mem_cons_of_mem _ h)
  have hown : s.vm.findClass RX4 = some m.cls := findClass_of_methodNamed B.named
  have hlocks := B.notSynchronized
  subst hsz
  have hD := hD0.self (sz := s.heap.size)
  generalize hAe : va_A (kX4 cB cI mo mb ma w_zf w_nf w_hf w_cf w_sp w_pc w_on w_wt w_ht w_bg w_cn w_al w_cl w_ie w_ww w_th w_mm w_bs) s.heap.size = A at hD hT ⊢
  have hA : ∀ q : Nat, s.heap.size ≤ q → A q := fun q h => by rw [← hAe]; exact Or.inr h
  have hS : va_S A s.heap s.heap [] := va_S.rf
  have hl := lv_entry ([.ref mo, .int a1, .int a2]) (n := 5) (Nat.le_of_ble_eq_true rfl)
  rw [lg_entry_eq]
  generalize (lg_sl ([.ref mo, .int a1, .int a2]) ++ List.replicate (5 - (lg_sl ([.ref mo, .int a1, .int a2])).length) Slot.unset).toArray = ls at hl ⊢
  have hl : lv_has ls 5 [(0, .ref mo), (1, .int a1), (2, .int a2)] := hl
  generalize hQ : MQ _ _ _ _ _ _ _ = Q
  obtain ⟨H, hHe⟩ : ∃ H : Heap, H = s.heap := ⟨_, rfl⟩
  obtain ⟨locs, hle⟩ : ∃ L : List Loc, L = [] := ⟨_, rfl⟩
  have hP : va_P D vwCl (kX4 cB cI mo mb ma w_zf w_nf w_hf w_cf w_sp w_pc w_on w_wt w_ht w_bg w_cn w_al w_cl w_ie w_ww w_th w_mm w_bs) H := by rw [hHe]; exact hP
  have hS : va_S A s.heap H locs := by rw [hHe, hle]; exact hS
  refine kw_start hHe.symm hle.symm ?_
  have hf : fX4_sums w_zf w_nf w_hf w_cf w_bs a1 a2 = fX4_sums w_zf w_nf w_hf w_cf w_bs a1 a2 := rfl
  refine lv_aload_n hx hb dX4_sums_0 rfl (lv_at hl 0 rfl) ?_
  refine va_get (D := D) (ci := 4) (v := .int (bI w_cf)) (C := RX4) (T := TX4) (N := 18) hx hb hws inlX4 hown hK hP 0 rfl rfl 5 (by decide) (hws _ mw_431) (fun _ h9 => h9) rfl dX4_sums_1 ?_
  obtain ⟨TJ3, hTJ3⟩ : ∃ T9 : Bool, T9 = (kIf (kEq (bI w_cf) (0 : Int32)) false true) := ⟨_, rfl⟩
  have J3 : ∀ (z2 : Bool), z2 = TJ3 → ∀ (H : Heap) (locs : List Loc) (ls : Array Slot), lv_has ls 5 [(0, .ref mo), (1, .int a1), (2, .int a2)] → va_P D vwCl (kX4 cB cI mo mb ma w_zf w_nf w_hf w_cf w_sp w_pc w_on w_wt w_ht w_bg w_cn w_al w_cl w_ie w_ww w_th w_mm w_bs) H → va_D A (kX4 cB cI mo mb ma w_zf w_nf w_hf w_cf w_sp w_pc w_on w_wt w_ht w_bg w_cn w_al w_cl w_ie w_ww w_th w_mm w_bs) → va_S A s.heap H locs → W p l e (headSpec wwX4_sums rmX4_sums).room s m ([.ref mo, .int a1, .int a2] : List Value).toArray below meth c H locs 0 0 Q (F0 m 12 ls [.int (bI z2)]) := by
    intro z2 eJ3 H locs ls hl hP hD hS
    have hf := hf.trans (kE1 (eJ3.trans hTJ3))
    refine lv_istore_n (lv' := [(3, .int (bI z2)), (0, .ref mo), (1, .int a1), (2, .int a2)]) hx hb dX4_sums_12 rfl hl (by decide) rfl (fun ls hl => ?_)
    refine lv_iload_n hx hb dX4_sums_13 rfl (lv_at hl 2 rfl) ?_
    by_cases c4 : a1 = (0 : Int32)
    · have hf := hf.trans (kt_eq c4)
      refine lv_tableIn (off := 42) (tgt := 56) hx hb dX4_sums_14 (by rw [c4]; decide) (by rw [c4]; decide) (by rw [c4]; decide) (by decide) ?_
      refine lv_aload_n hx hb dX4_sums_56 rfl (lv_at hl 1 rfl) ?_
      refine lv_iload_n hx hb dX4_sums_57 rfl (lv_at hl 3 rfl) ?_
      refine lv_iconst (v := 0) hx hb dX4_sums_58 (by decide) ?_
      refine kc_Vv (wr := []) (As := [.int a2, .int (0 : Int32)]) (rest := []) (fun u9 => (kX4 cB cI mo mb ma (u9.1) (u9.2.1) (u9.2.2.1) (u9.2.2.2.1) w_sp w_pc w_on w_wt w_ht w_bg w_cn w_al w_cl w_ie w_ww w_th w_mm (u9.2.2.2.2))) ⟨hx, hb, hml, hown, hws⟩ hK hP hD hS hA hT (c_X4_adds l D cB cI mo mb ma H.size w_zf w_nf w_hf w_cf w_sp w_pc w_on w_wt w_ht w_bg w_cn w_al w_cl w_ie w_ww w_th w_mm w_bs a2 (0 : Int32)) (cwV 2 hws (gw_V mw_502 mw_503 mw_504 mw_5 mw_505) rfl rfl rfl hdX4_adds ⟨Nat.le_of_ble_eq_true rfl, Nat.le_of_ble_eq_true rfl⟩) [0, 1, 2] [] [0, 1] [0, 1, 2] rfl rfl rfl rfl (by decide) rfl (fun _ => rfl) rfl 0 rfl rfl rfl rfl hl.1 rfl (Nat.le_of_ble_eq_true rfl) dX4_sums_59 ⟨Nat.zero_le _, Nat.zero_le _⟩ (fun u9 H locs hw10 hP hD hS => ?_)
      obtain ⟨b5, b6, b7, b8, b9⟩ := u9
      have hP : va_P D vwCl (kX4 cB cI mo mb ma b5 b6 b7 b8 w_sp w_pc w_on w_wt w_ht w_bg w_cn w_al w_cl w_ie w_ww w_th w_mm b9) H := hP
      have hD : va_D A (kX4 cB cI mo mb ma b5 b6 b7 b8 w_sp w_pc w_on w_wt w_ht w_bg w_cn w_al w_cl w_ie w_ww w_th w_mm b9) := hD
      have hf := hf.trans (kE5 hw10)
      refine lv_goto (tgt := 222) hx hb dX4_sums_62 (by decide) ?_
      rw [← hQ]
      exact W.vret hx hb hr (fun t ht hW => ⟨⟨(b5, b6, b7, b8, b9), rfl, hf.symm, by rw [ht]; exact hP, va_K.moved hW.alike hK, hD⟩, hS.F ht⟩) hS.2.2 dX4_sums_222
    · have hf := hf.trans (kf_eq c4)
      by_cases c11 : a1 = (1 : Int32)
      · have hf := hf.trans (kt_eq c11)
        refine lv_tableIn (off := 51) (tgt := 65) hx hb dX4_sums_14 (by rw [c11]; decide) (by rw [c11]; decide) (by rw [c11]; decide) (by decide) ?_
        refine lv_aload_n hx hb dX4_sums_65 rfl (lv_at hl 1 rfl) ?_
        refine lv_iload_n hx hb dX4_sums_66 rfl (lv_at hl 3 rfl) ?_
        refine lv_iload_n hx hb dX4_sums_67 rfl (lv_at hl 0 rfl) ?_
        refine kc_Vv (wr := []) (As := [.int a2, .int (bI z2)]) (rest := []) (fun u9 => (kX4 cB cI mo mb ma (u9.1) (u9.2.1) (u9.2.2.1) (u9.2.2.2.1) w_sp w_pc w_on w_wt w_ht w_bg w_cn w_al w_cl w_ie w_ww w_th w_mm (u9.2.2.2.2))) ⟨hx, hb, hml, hown, hws⟩ hK hP hD hS hA hT (c_X4_adds l D cB cI mo mb ma H.size w_zf w_nf w_hf w_cf w_sp w_pc w_on w_wt w_ht w_bg w_cn w_al w_cl w_ie w_ww w_th w_mm w_bs a2 (bI z2)) (cwV 2 hws (gw_V mw_502 mw_503 mw_504 mw_5 mw_505) rfl rfl rfl hdX4_adds ⟨Nat.le_of_ble_eq_true rfl, Nat.le_of_ble_eq_true rfl⟩) [0, 1, 2] [] [0, 1] [0, 1, 2] rfl rfl rfl rfl (by decide) rfl (fun _ => rfl) rfl 0 rfl rfl rfl rfl hl.1 rfl (Nat.le_of_ble_eq_true rfl) dX4_sums_68 ⟨Nat.zero_le _, Nat.zero_le _⟩ (fun u9 H locs hw17 hP hD hS => ?_)
        obtain ⟨b12, b13, b14, b15, b16⟩ := u9
        have hP : va_P D vwCl (kX4 cB cI mo mb ma b12 b13 b14 b15 w_sp w_pc w_on w_wt w_ht w_bg w_cn w_al w_cl w_ie w_ww w_th w_mm b16) H := hP
        have hD : va_D A (kX4 cB cI mo mb ma b12 b13 b14 b15 w_sp w_pc w_on w_wt w_ht w_bg w_cn w_al w_cl w_ie w_ww w_th w_mm b16) := hD
        have hf := hf.trans (kE5 hw17)
        refine lv_goto (tgt := 222) hx hb dX4_sums_71 (by decide) ?_
        rw [← hQ]
        exact W.vret hx hb hr (fun t ht hW => ⟨⟨(b12, b13, b14, b15, b16), rfl, hf.symm, by rw [ht]; exact hP, va_K.moved hW.alike hK, hD⟩, hS.F ht⟩) hS.2.2 dX4_sums_222
      · have hf := hf.trans (kf_eq c11)
        by_cases c18 : a1 = (2 : Int32)
        · have hf := hf.trans (kt_eq c18)
          refine lv_tableIn (off := 60) (tgt := 74) hx hb dX4_sums_14 (by rw [c18]; decide) (by rw [c18]; decide) (by rw [c18]; decide) (by decide) ?_
          refine lv_aload_n hx hb dX4_sums_74 rfl (lv_at hl 1 rfl) ?_
          refine va_get (D := D) (ci := 4) (v := .ref ma) (C := RX4) (T := TX4) (N := 18) hx hb hws inlX4 hown hK hP 0 rfl rfl 1 (by decide) (hws _ mw_45) (fun _ h9 => h9) rfl dX4_sums_75 ?_
          refine lv_bipush (v := 7) hx hb dX4_sums_78 (by decide) ?_
          refine lv_aload_n hx hb dX4_sums_80 rfl (lv_at hl 1 rfl) ?_
          refine lv_iload_n hx hb dX4_sums_81 rfl (lv_at hl 3 rfl) ?_
          refine lv_iconst (v := 0) hx hb dX4_sums_82 (by decide) ?_
          refine kc_Vi (wr := []) (As := [.int a2, .int (0 : Int32)]) (rest := [.int (7 : Int32), .ref ma]) (fun u9 => (kX4 cB cI mo mb ma (u9.1) (u9.2.1) (u9.2.2.1) (u9.2.2.2) w_sp w_pc w_on w_wt w_ht w_bg w_cn w_al w_cl w_ie w_ww w_th w_mm w_bs)) ⟨hx, hb, hml, hown, hws⟩ hK hP hD hS hA hT (c_X4_less l D cB cI mo mb ma H.size w_zf w_nf w_hf w_cf w_sp w_pc w_on w_wt w_ht w_bg w_cn w_al w_cl w_ie w_ww w_th w_mm w_bs a2 (0 : Int32)) (cwV 2 hws (gw_V mw_506 mw_507 mw_508 mw_5 mw_509) rfl rfl rfl hdX4_less ⟨Nat.le_of_ble_eq_true rfl, Nat.le_of_ble_eq_true rfl⟩) [0, 1, 2] [] [0, 1] [0, 1, 2] rfl rfl rfl rfl (by decide) rfl (fun _ => rfl) rfl 0 rfl rfl rfl rfl hl.1 rfl (Nat.le_of_ble_eq_true rfl) dX4_sums_83 ⟨Nat.zero_le _, Nat.zero_le _⟩ (fun r24 u9 H locs hw23 hP hD hS => ?_)
          obtain ⟨b19, b20, b21, b22⟩ := u9
          have hP : va_P D vwCl (kX4 cB cI mo mb ma b19 b20 b21 b22 w_sp w_pc w_on w_wt w_ht w_bg w_cn w_al w_cl w_ie w_ww w_th w_mm w_bs) H := hP
          have hD : va_D A (kX4 cB cI mo mb ma b19 b20 b21 b22 w_sp w_pc w_on w_wt w_ht w_bg w_cn w_al w_cl w_ie w_ww w_th w_mm w_bs) := hD
          have hf := hf.trans (kE5 hw23)
          refine va_iast hx hb hK hP hD hS 2 1 rfl rfl (by unfold vp_in; decide) dX4_sums_86 (fun H locs hP hD hS => ?_)
          obtain ⟨f25, ef25⟩ : ∃ f9 : Nat → Int32, f9 = upd w_bs (7 : Int32).toNatClampNeg r24 := ⟨_, rfl⟩
          have hf := hf.trans (kE1 ef25)
          have hP : va_P D vwCl (kX4 cB cI mo mb ma b19 b20 b21 b22 w_sp w_pc w_on w_wt w_ht w_bg w_cn w_al w_cl w_ie w_ww w_th w_mm f25) H := by rw [ef25]; exact hP
          have hD : va_D A (kX4 cB cI mo mb ma b19 b20 b21 b22 w_sp w_pc w_on w_wt w_ht w_bg w_cn w_al w_cl w_ie w_ww w_th w_mm f25) := by rw [ef25]; exact hD
          refine lv_goto (tgt := 222) hx hb dX4_sums_87 (by decide) ?_
          rw [← hQ]
          exact W.vret hx hb hr (fun t ht hW => ⟨⟨(b19, b20, b21, b22, f25), rfl, hf.symm, by rw [ht]; exact hP, va_K.moved hW.alike hK, hD⟩, hS.F ht⟩) hS.2.2 dX4_sums_222
        · have hf := hf.trans (kf_eq c18)
          by_cases c26 : a1 = (3 : Int32)
          · have hf := hf.trans (kt_eq c26)
            refine lv_tableIn (off := 76) (tgt := 90) hx hb dX4_sums_14 (by rw [c26]; decide) (by rw [c26]; decide) (by rw [c26]; decide) (by decide) ?_
            refine lv_aload_n hx hb dX4_sums_90 rfl (lv_at hl 1 rfl) ?_
            refine va_get (D := D) (ci := 4) (v := .ref ma) (C := RX4) (T := TX4) (N := 18) hx hb hws inlX4 hown hK hP 0 rfl rfl 1 (by decide) (hws _ mw_45) (fun _ h9 => h9) rfl dX4_sums_91 ?_
            refine lv_bipush (v := 7) hx hb dX4_sums_94 (by decide) ?_
            refine lv_aload_n hx hb dX4_sums_96 rfl (lv_at hl 1 rfl) ?_
            refine lv_iload_n hx hb dX4_sums_97 rfl (lv_at hl 3 rfl) ?_
            refine lv_iload_n hx hb dX4_sums_98 rfl (lv_at hl 0 rfl) ?_
            refine kc_Vi (wr := []) (As := [.int a2, .int (bI z2)]) (rest := [.int (7 : Int32), .ref ma]) (fun u9 => (kX4 cB cI mo mb ma (u9.1) (u9.2.1) (u9.2.2.1) (u9.2.2.2) w_sp w_pc w_on w_wt w_ht w_bg w_cn w_al w_cl w_ie w_ww w_th w_mm w_bs)) ⟨hx, hb, hml, hown, hws⟩ hK hP hD hS hA hT (c_X4_less l D cB cI mo mb ma H.size w_zf w_nf w_hf w_cf w_sp w_pc w_on w_wt w_ht w_bg w_cn w_al w_cl w_ie w_ww w_th w_mm w_bs a2 (bI z2)) (cwV 2 hws (gw_V mw_506 mw_507 mw_508 mw_5 mw_509) rfl rfl rfl hdX4_less ⟨Nat.le_of_ble_eq_true rfl, Nat.le_of_ble_eq_true rfl⟩) [0, 1, 2] [] [0, 1] [0, 1, 2] rfl rfl rfl rfl (by decide) rfl (fun _ => rfl) rfl 0 rfl rfl rfl rfl hl.1 rfl (Nat.le_of_ble_eq_true rfl) dX4_sums_99 ⟨Nat.zero_le _, Nat.zero_le _⟩ (fun r32 u9 H locs hw31 hP hD hS => ?_)
            obtain ⟨b27, b28, b29, b30⟩ := u9
            have hP : va_P D vwCl (kX4 cB cI mo mb ma b27 b28 b29 b30 w_sp w_pc w_on w_wt w_ht w_bg w_cn w_al w_cl w_ie w_ww w_th w_mm w_bs) H := hP
            have hD : va_D A (kX4 cB cI mo mb ma b27 b28 b29 b30 w_sp w_pc w_on w_wt w_ht w_bg w_cn w_al w_cl w_ie w_ww w_th w_mm w_bs) := hD
            have hf := hf.trans (kE5 hw31)
            refine va_iast hx hb hK hP hD hS 2 1 rfl rfl (by unfold vp_in; decide) dX4_sums_102 (fun H locs hP hD hS => ?_)
            obtain ⟨f33, ef33⟩ : ∃ f9 : Nat → Int32, f9 = upd w_bs (7 : Int32).toNatClampNeg r32 := ⟨_, rfl⟩
            have hf := hf.trans (kE1 ef33)
            have hP : va_P D vwCl (kX4 cB cI mo mb ma b27 b28 b29 b30 w_sp w_pc w_on w_wt w_ht w_bg w_cn w_al w_cl w_ie w_ww w_th w_mm f33) H := by rw [ef33]; exact hP
            have hD : va_D A (kX4 cB cI mo mb ma b27 b28 b29 b30 w_sp w_pc w_on w_wt w_ht w_bg w_cn w_al w_cl w_ie w_ww w_th w_mm f33) := by rw [ef33]; exact hD
            refine lv_goto (tgt := 222) hx hb dX4_sums_103 (by decide) ?_
            rw [← hQ]
            exact W.vret hx hb hr (fun t ht hW => ⟨⟨(b27, b28, b29, b30, f33), rfl, hf.symm, by rw [ht]; exact hP, va_K.moved hW.alike hK, hD⟩, hS.F ht⟩) hS.2.2 dX4_sums_222
          · have hf := hf.trans (kf_eq c26)
            by_cases c34 : a1 = (4 : Int32)
            · have hf := hf.trans (kt_eq c34)
              refine lv_tableIn (off := 92) (tgt := 106) hx hb dX4_sums_14 (by rw [c34]; decide) (by rw [c34]; decide) (by rw [c34]; decide) (by decide) ?_
              refine lv_aload_n hx hb dX4_sums_106 rfl (lv_at hl 1 rfl) ?_
              refine va_get (D := D) (ci := 4) (v := .ref ma) (C := RX4) (T := TX4) (N := 18) hx hb hws inlX4 hown hK hP 0 rfl rfl 1 (by decide) (hws _ mw_45) (fun _ h9 => h9) rfl dX4_sums_107 ?_
              refine lv_bipush (v := 7) hx hb dX4_sums_110 (by decide) ?_
              refine lv_dup2_11 hx hb dX4_sums_112 rfl rfl ?_
              refine va_iald hx hb hK hP 2 1 rfl rfl (by unfold vp_in; decide) dX4_sums_113 ?_
              refine lv_iload_n hx hb dX4_sums_114 rfl (lv_at hl 3 rfl) ?_
              refine lv_iand hx hb dX4_sums_115 ?_
              refine va_iast hx hb hK hP hD hS 2 1 rfl rfl (by unfold vp_in; decide) dX4_sums_116 (fun H locs hP hD hS => ?_)
              obtain ⟨f35, ef35⟩ : ∃ f9 : Nat → Int32, f9 = upd w_bs (7 : Int32).toNatClampNeg ((w_bs (7 : Int32).toNatClampNeg) &&& a2) := ⟨_, rfl⟩
              have hf := hf.trans (kE1 ef35)
              have hP : va_P D vwCl (kX4 cB cI mo mb ma w_zf w_nf w_hf w_cf w_sp w_pc w_on w_wt w_ht w_bg w_cn w_al w_cl w_ie w_ww w_th w_mm f35) H := by rw [ef35]; exact hP
              have hD : va_D A (kX4 cB cI mo mb ma w_zf w_nf w_hf w_cf w_sp w_pc w_on w_wt w_ht w_bg w_cn w_al w_cl w_ie w_ww w_th w_mm f35) := by rw [ef35]; exact hD
              refine lv_aload_n hx hb dX4_sums_117 rfl (lv_at hl 1 rfl) ?_
              refine lv_aload_n hx hb dX4_sums_118 rfl (lv_at hl 1 rfl) ?_
              refine va_get (D := D) (ci := 4) (v := .ref ma) (C := RX4) (T := TX4) (N := 18) hx hb hws inlX4 hown hK hP 0 rfl rfl 1 (by decide) (hws _ mw_45) (fun _ h9 => h9) rfl dX4_sums_119 ?_
              refine lv_bipush (v := 7) hx hb dX4_sums_122 (by decide) ?_
              refine va_iald hx hb hK hP 2 1 rfl rfl (by unfold vp_in; decide) dX4_sums_124 ?_
              obtain ⟨TJ38, hTJ38⟩ : ∃ T9 : Bool, T9 = (kIf (kEq (f35 (7 : Int32).toNatClampNeg) (0 : Int32)) true false) := ⟨_, rfl⟩
              have J38 : ∀ (z37 : Bool), z37 = TJ38 → ∀ (H : Heap) (locs : List Loc) (ls : Array Slot), lv_has ls 5 [(3, .int (bI z2)), (0, .ref mo), (1, .int a1), (2, .int a2)] → va_P D vwCl (kX4 cB cI mo mb ma w_zf w_nf w_hf w_cf w_sp w_pc w_on w_wt w_ht w_bg w_cn w_al w_cl w_ie w_ww w_th w_mm f35) H → va_D A (kX4 cB cI mo mb ma w_zf w_nf w_hf w_cf w_sp w_pc w_on w_wt w_ht w_bg w_cn w_al w_cl w_ie w_ww w_th w_mm f35) → va_S A s.heap H locs → W p l e (headSpec wwX4_sums rmX4_sums).room s m ([.ref mo, .int a1, .int a2] : List Value).toArray below meth c H locs 0 0 Q (F0 m 133 ls [.int (bI z37), .ref mo]) := by
                intro z37 eJ38 H locs ls hl hP hD hS
                have hf := hf.trans (kE1 (eJ38.trans hTJ38))
                refine lv_iconst (v := 0) hx hb dX4_sums_133 (by decide) ?_
                refine lv_iconst (v := 1) hx hb dX4_sums_134 (by decide) ?_
                refine lv_iconst (v := 0) hx hb dX4_sums_135 (by decide) ?_
                refine kc_Vv (wr := []) (As := [.int (bI z37), .int (bI false), .int (bI true), .int (bI false)]) (rest := []) (fun u9 => (kX4 cB cI mo mb ma (u9.1) (u9.2.1) (u9.2.2.1) (u9.2.2.2) w_sp w_pc w_on w_wt w_ht w_bg w_cn w_al w_cl w_ie w_ww w_th w_mm f35)) ⟨hx, hb, hml, hown, hws⟩ hK hP hD hS hA hT (c_X4_flagsAre l D cB cI mo mb ma H.size w_zf w_nf w_hf w_cf w_sp w_pc w_on w_wt w_ht w_bg w_cn w_al w_cl w_ie w_ww w_th w_mm f35 z37 false true false) (cwV 4 hws (gw_V mw_448 mw_449 mw_450 mw_5 mw_451) rfl rfl rfl hdX4_flagsAre ⟨Nat.le_of_ble_eq_true rfl, Nat.le_of_ble_eq_true rfl⟩) [0, 1, 2] [] [0, 1] [0, 1, 2] rfl rfl rfl rfl (by decide) rfl (fun _ => rfl) rfl 0 rfl rfl rfl rfl hl.1 rfl (Nat.le_of_ble_eq_true rfl) dX4_sums_136 ⟨Nat.zero_le _, Nat.zero_le _⟩ (fun u9 H locs hw43 hP hD hS => ?_)
                obtain ⟨b39, b40, b41, b42⟩ := u9
                have hP : va_P D vwCl (kX4 cB cI mo mb ma b39 b40 b41 b42 w_sp w_pc w_on w_wt w_ht w_bg w_cn w_al w_cl w_ie w_ww w_th w_mm f35) H := hP
                have hD : va_D A (kX4 cB cI mo mb ma b39 b40 b41 b42 w_sp w_pc w_on w_wt w_ht w_bg w_cn w_al w_cl w_ie w_ww w_th w_mm f35) := hD
                have hf := hf.trans (kE4 hw43)
                refine lv_goto (tgt := 222) hx hb dX4_sums_139 (by decide) ?_
                rw [← hQ]
                exact W.vret hx hb hr (fun t ht hW => ⟨⟨(b39, b40, b41, b42, f35), rfl, hf.symm, by rw [ht]; exact hP, va_K.moved hW.alike hK, hD⟩, hS.F ht⟩) hS.2.2 dX4_sums_222
              have hf := hTJ38
              refine lv_if_ne (tgt := 132) hx hb dX4_sums_125 (by decide) (fun c36 => ?_) (fun c36 => ?_)
              · have hf := hf.trans (kf_eq c36)
                refine lv_iconst (v := 0) hx hb dX4_sums_132 (by decide) ?_
                exact J38 false hf.symm H locs ls (lv_sub hl [0, 1, 2, 3] rfl) hP hD hS
              · have hf := hf.trans (kt_eq c36)
                refine lv_iconst (v := 1) hx hb dX4_sums_128 (by decide) ?_
                refine lv_goto (tgt := 133) hx hb dX4_sums_129 (by decide) ?_
                exact J38 true hf.symm H locs ls (lv_sub hl [0, 1, 2, 3] rfl) hP hD hS
            · have hf := hf.trans (kf_eq c34)
              by_cases c44 : a1 = (5 : Int32)
              · have hf := hf.trans (kt_eq c44)
                refine lv_tableIn (off := 128) (tgt := 142) hx hb dX4_sums_14 (by rw [c44]; decide) (by rw [c44]; decide) (by rw [c44]; decide) (by decide) ?_
                refine lv_aload_n hx hb dX4_sums_142 rfl (lv_at hl 1 rfl) ?_
                refine va_get (D := D) (ci := 4) (v := .ref ma) (C := RX4) (T := TX4) (N := 18) hx hb hws inlX4 hown hK hP 0 rfl rfl 1 (by decide) (hws _ mw_45) (fun _ h9 => h9) rfl dX4_sums_143 ?_
                refine lv_bipush (v := 7) hx hb dX4_sums_146 (by decide) ?_
                refine lv_dup2_11 hx hb dX4_sums_148 rfl rfl ?_
                refine va_iald hx hb hK hP 2 1 rfl rfl (by unfold vp_in; decide) dX4_sums_149 ?_
                refine lv_iload_n hx hb dX4_sums_150 rfl (lv_at hl 3 rfl) ?_
                refine lv_ixor hx hb dX4_sums_151 ?_
                refine va_iast hx hb hK hP hD hS 2 1 rfl rfl (by unfold vp_in; decide) dX4_sums_152 (fun H locs hP hD hS => ?_)
                obtain ⟨f45, ef45⟩ : ∃ f9 : Nat → Int32, f9 = upd w_bs (7 : Int32).toNatClampNeg ((w_bs (7 : Int32).toNatClampNeg) ^^^ a2) := ⟨_, rfl⟩
                have hf := hf.trans (kE1 ef45)
                have hP : va_P D vwCl (kX4 cB cI mo mb ma w_zf w_nf w_hf w_cf w_sp w_pc w_on w_wt w_ht w_bg w_cn w_al w_cl w_ie w_ww w_th w_mm f45) H := by rw [ef45]; exact hP
                have hD : va_D A (kX4 cB cI mo mb ma w_zf w_nf w_hf w_cf w_sp w_pc w_on w_wt w_ht w_bg w_cn w_al w_cl w_ie w_ww w_th w_mm f45) := by rw [ef45]; exact hD
                refine lv_aload_n hx hb dX4_sums_153 rfl (lv_at hl 1 rfl) ?_
                refine lv_aload_n hx hb dX4_sums_154 rfl (lv_at hl 1 rfl) ?_
                refine va_get (D := D) (ci := 4) (v := .ref ma) (C := RX4) (T := TX4) (N := 18) hx hb hws inlX4 hown hK hP 0 rfl rfl 1 (by decide) (hws _ mw_45) (fun _ h9 => h9) rfl dX4_sums_155 ?_
                refine lv_bipush (v := 7) hx hb dX4_sums_158 (by decide) ?_
                refine va_iald hx hb hK hP 2 1 rfl rfl (by unfold vp_in; decide) dX4_sums_160 ?_
                obtain ⟨TJ48, hTJ48⟩ : ∃ T9 : Bool, T9 = (kIf (kEq (f45 (7 : Int32).toNatClampNeg) (0 : Int32)) true false) := ⟨_, rfl⟩
                have J48 : ∀ (z47 : Bool), z47 = TJ48 → ∀ (H : Heap) (locs : List Loc) (ls : Array Slot), lv_has ls 5 [(3, .int (bI z2)), (0, .ref mo), (1, .int a1), (2, .int a2)] → va_P D vwCl (kX4 cB cI mo mb ma w_zf w_nf w_hf w_cf w_sp w_pc w_on w_wt w_ht w_bg w_cn w_al w_cl w_ie w_ww w_th w_mm f45) H → va_D A (kX4 cB cI mo mb ma w_zf w_nf w_hf w_cf w_sp w_pc w_on w_wt w_ht w_bg w_cn w_al w_cl w_ie w_ww w_th w_mm f45) → va_S A s.heap H locs → W p l e (headSpec wwX4_sums rmX4_sums).room s m ([.ref mo, .int a1, .int a2] : List Value).toArray below meth c H locs 0 0 Q (F0 m 169 ls [.int (bI z47), .ref mo]) := by
                  intro z47 eJ48 H locs ls hl hP hD hS
                  have hf := hf.trans (kE1 (eJ48.trans hTJ48))
                  refine lv_iconst (v := 0) hx hb dX4_sums_169 (by decide) ?_
                  refine lv_iconst (v := 0) hx hb dX4_sums_170 (by decide) ?_
                  refine lv_iconst (v := 0) hx hb dX4_sums_171 (by decide) ?_
                  refine kc_Vv (wr := []) (As := [.int (bI z47), .int (bI false), .int (bI false), .int (bI false)]) (rest := []) (fun u9 => (kX4 cB cI mo mb ma (u9.1) (u9.2.1) (u9.2.2.1) (u9.2.2.2) w_sp w_pc w_on w_wt w_ht w_bg w_cn w_al w_cl w_ie w_ww w_th w_mm f45)) ⟨hx, hb, hml, hown, hws⟩ hK hP hD hS hA hT (c_X4_flagsAre l D cB cI mo mb ma H.size w_zf w_nf w_hf w_cf w_sp w_pc w_on w_wt w_ht w_bg w_cn w_al w_cl w_ie w_ww w_th w_mm f45 z47 false false false) (cwV 4 hws (gw_V mw_448 mw_449 mw_450 mw_5 mw_451) rfl rfl rfl hdX4_flagsAre ⟨Nat.le_of_ble_eq_true rfl, Nat.le_of_ble_eq_true rfl⟩) [0, 1, 2] [] [0, 1] [0, 1, 2] rfl rfl rfl rfl (by decide) rfl (fun _ => rfl) rfl 0 rfl rfl rfl rfl hl.1 rfl (Nat.le_of_ble_eq_true rfl) dX4_sums_172 ⟨Nat.zero_le _, Nat.zero_le _⟩ (fun u9 H locs hw53 hP hD hS => ?_)
                  obtain ⟨b49, b50, b51, b52⟩ := u9
                  have hP : va_P D vwCl (kX4 cB cI mo mb ma b49 b50 b51 b52 w_sp w_pc w_on w_wt w_ht w_bg w_cn w_al w_cl w_ie w_ww w_th w_mm f45) H := hP
                  have hD : va_D A (kX4 cB cI mo mb ma b49 b50 b51 b52 w_sp w_pc w_on w_wt w_ht w_bg w_cn w_al w_cl w_ie w_ww w_th w_mm f45) := hD
                  have hf := hf.trans (kE4 hw53)
                  refine lv_goto (tgt := 222) hx hb dX4_sums_175 (by decide) ?_
                  rw [← hQ]
                  exact W.vret hx hb hr (fun t ht hW => ⟨⟨(b49, b50, b51, b52, f45), rfl, hf.symm, by rw [ht]; exact hP, va_K.moved hW.alike hK, hD⟩, hS.F ht⟩) hS.2.2 dX4_sums_222
                have hf := hTJ48
                refine lv_if_ne (tgt := 168) hx hb dX4_sums_161 (by decide) (fun c46 => ?_) (fun c46 => ?_)
                · have hf := hf.trans (kf_eq c46)
                  refine lv_iconst (v := 0) hx hb dX4_sums_168 (by decide) ?_
                  exact J48 false hf.symm H locs ls (lv_sub hl [0, 1, 2, 3] rfl) hP hD hS
                · have hf := hf.trans (kt_eq c46)
                  refine lv_iconst (v := 1) hx hb dX4_sums_164 (by decide) ?_
                  refine lv_goto (tgt := 169) hx hb dX4_sums_165 (by decide) ?_
                  exact J48 true hf.symm H locs ls (lv_sub hl [0, 1, 2, 3] rfl) hP hD hS
              · have hf := hf.trans (kf_eq c44)
                by_cases c54 : a1 = (6 : Int32)
                · have hf := hf.trans (kt_eq c54)
                  refine lv_tableIn (off := 164) (tgt := 178) hx hb dX4_sums_14 (by rw [c54]; decide) (by rw [c54]; decide) (by rw [c54]; decide) (by decide) ?_
                  refine lv_aload_n hx hb dX4_sums_178 rfl (lv_at hl 1 rfl) ?_
                  refine va_get (D := D) (ci := 4) (v := .ref ma) (C := RX4) (T := TX4) (N := 18) hx hb hws inlX4 hown hK hP 0 rfl rfl 1 (by decide) (hws _ mw_45) (fun _ h9 => h9) rfl dX4_sums_179 ?_
                  refine lv_bipush (v := 7) hx hb dX4_sums_182 (by decide) ?_
                  refine lv_dup2_11 hx hb dX4_sums_184 rfl rfl ?_
                  refine va_iald hx hb hK hP 2 1 rfl rfl (by unfold vp_in; decide) dX4_sums_185 ?_
                  refine lv_iload_n hx hb dX4_sums_186 rfl (lv_at hl 3 rfl) ?_
                  refine lv_ior hx hb dX4_sums_187 ?_
                  refine va_iast hx hb hK hP hD hS 2 1 rfl rfl (by unfold vp_in; decide) dX4_sums_188 (fun H locs hP hD hS => ?_)
                  obtain ⟨f55, ef55⟩ : ∃ f9 : Nat → Int32, f9 = upd w_bs (7 : Int32).toNatClampNeg ((w_bs (7 : Int32).toNatClampNeg) ||| a2) := ⟨_, rfl⟩
                  have hf := hf.trans (kE1 ef55)
                  have hP : va_P D vwCl (kX4 cB cI mo mb ma w_zf w_nf w_hf w_cf w_sp w_pc w_on w_wt w_ht w_bg w_cn w_al w_cl w_ie w_ww w_th w_mm f55) H := by rw [ef55]; exact hP
                  have hD : va_D A (kX4 cB cI mo mb ma w_zf w_nf w_hf w_cf w_sp w_pc w_on w_wt w_ht w_bg w_cn w_al w_cl w_ie w_ww w_th w_mm f55) := by rw [ef55]; exact hD
                  refine lv_aload_n hx hb dX4_sums_189 rfl (lv_at hl 1 rfl) ?_
                  refine lv_aload_n hx hb dX4_sums_190 rfl (lv_at hl 1 rfl) ?_
                  refine va_get (D := D) (ci := 4) (v := .ref ma) (C := RX4) (T := TX4) (N := 18) hx hb hws inlX4 hown hK hP 0 rfl rfl 1 (by decide) (hws _ mw_45) (fun _ h9 => h9) rfl dX4_sums_191 ?_
                  refine lv_bipush (v := 7) hx hb dX4_sums_194 (by decide) ?_
                  refine va_iald hx hb hK hP 2 1 rfl rfl (by unfold vp_in; decide) dX4_sums_196 ?_
                  obtain ⟨TJ58, hTJ58⟩ : ∃ T9 : Bool, T9 = (kIf (kEq (f55 (7 : Int32).toNatClampNeg) (0 : Int32)) true false) := ⟨_, rfl⟩
                  have J58 : ∀ (z57 : Bool), z57 = TJ58 → ∀ (H : Heap) (locs : List Loc) (ls : Array Slot), lv_has ls 5 [(3, .int (bI z2)), (0, .ref mo), (1, .int a1), (2, .int a2)] → va_P D vwCl (kX4 cB cI mo mb ma w_zf w_nf w_hf w_cf w_sp w_pc w_on w_wt w_ht w_bg w_cn w_al w_cl w_ie w_ww w_th w_mm f55) H → va_D A (kX4 cB cI mo mb ma w_zf w_nf w_hf w_cf w_sp w_pc w_on w_wt w_ht w_bg w_cn w_al w_cl w_ie w_ww w_th w_mm f55) → va_S A s.heap H locs → W p l e (headSpec wwX4_sums rmX4_sums).room s m ([.ref mo, .int a1, .int a2] : List Value).toArray below meth c H locs 0 0 Q (F0 m 205 ls [.int (bI z57), .ref mo]) := by
                    intro z57 eJ58 H locs ls hl hP hD hS
                    have hf := hf.trans (kE1 (eJ58.trans hTJ58))
                    refine lv_iconst (v := 0) hx hb dX4_sums_205 (by decide) ?_
                    refine lv_iconst (v := 0) hx hb dX4_sums_206 (by decide) ?_
                    refine lv_iconst (v := 0) hx hb dX4_sums_207 (by decide) ?_
                    refine kc_Vv (wr := []) (As := [.int (bI z57), .int (bI false), .int (bI false), .int (bI false)]) (rest := []) (fun u9 => (kX4 cB cI mo mb ma (u9.1) (u9.2.1) (u9.2.2.1) (u9.2.2.2) w_sp w_pc w_on w_wt w_ht w_bg w_cn w_al w_cl w_ie w_ww w_th w_mm f55)) ⟨hx, hb, hml, hown, hws⟩ hK hP hD hS hA hT (c_X4_flagsAre l D cB cI mo mb ma H.size w_zf w_nf w_hf w_cf w_sp w_pc w_on w_wt w_ht w_bg w_cn w_al w_cl w_ie w_ww w_th w_mm f55 z57 false false false) (cwV 4 hws (gw_V mw_448 mw_449 mw_450 mw_5 mw_451) rfl rfl rfl hdX4_flagsAre ⟨Nat.le_of_ble_eq_true rfl, Nat.le_of_ble_eq_true rfl⟩) [0, 1, 2] [] [0, 1] [0, 1, 2] rfl rfl rfl rfl (by decide) rfl (fun _ => rfl) rfl 0 rfl rfl rfl rfl hl.1 rfl (Nat.le_of_ble_eq_true rfl) dX4_sums_208 ⟨Nat.zero_le _, Nat.zero_le _⟩ (fun u9 H locs hw63 hP hD hS => ?_)
                    obtain ⟨b59, b60, b61, b62⟩ := u9
                    have hP : va_P D vwCl (kX4 cB cI mo mb ma b59 b60 b61 b62 w_sp w_pc w_on w_wt w_ht w_bg w_cn w_al w_cl w_ie w_ww w_th w_mm f55) H := hP
                    have hD : va_D A (kX4 cB cI mo mb ma b59 b60 b61 b62 w_sp w_pc w_on w_wt w_ht w_bg w_cn w_al w_cl w_ie w_ww w_th w_mm f55) := hD
                    have hf := hf.trans (kE4 hw63)
                    refine lv_goto (tgt := 222) hx hb dX4_sums_211 (by decide) ?_
                    rw [← hQ]
                    exact W.vret hx hb hr (fun t ht hW => ⟨⟨(b59, b60, b61, b62, f55), rfl, hf.symm, by rw [ht]; exact hP, va_K.moved hW.alike hK, hD⟩, hS.F ht⟩) hS.2.2 dX4_sums_222
                  have hf := hTJ58
                  refine lv_if_ne (tgt := 204) hx hb dX4_sums_197 (by decide) (fun c56 => ?_) (fun c56 => ?_)
                  · have hf := hf.trans (kf_eq c56)
                    refine lv_iconst (v := 0) hx hb dX4_sums_204 (by decide) ?_
                    exact J58 false hf.symm H locs ls (lv_sub hl [0, 1, 2, 3] rfl) hP hD hS
                  · have hf := hf.trans (kt_eq c56)
                    refine lv_iconst (v := 1) hx hb dX4_sums_200 (by decide) ?_
                    refine lv_goto (tgt := 205) hx hb dX4_sums_201 (by decide) ?_
                    exact J58 true hf.symm H locs ls (lv_sub hl [0, 1, 2, 3] rfl) hP hD hS
                · have hf := hf.trans (kf_eq c54)
                  refine lv_tableOut (tgt := 214) hx hb dX4_sums_14 (by have n0 := lv_neT c4 (a := 0) rfl; have n1 := lv_neT c11 (a := 1) rfl; have n2 := lv_neT c18 (a := 2) rfl; have n3 := lv_neT c26 (a := 3) rfl; have n4 := lv_neT c34 (a := 4) rfl; have n5 := lv_neT c44 (a := 5) rfl; have n6 := lv_neT c54 (a := 6) rfl; omega) (by decide) ?_
                  refine lv_aload_n hx hb dX4_sums_214 rfl (lv_at hl 1 rfl) ?_
                  refine lv_iload_n hx hb dX4_sums_215 rfl (lv_at hl 3 rfl) ?_
                  refine lv_iconst (v := 0) hx hb dX4_sums_216 (by decide) ?_
                  refine kc_Vi (wr := []) (As := [.int a2, .int (0 : Int32)]) (rest := []) (fun u9 => (kX4 cB cI mo mb ma (u9.1) (u9.2.1) (u9.2.2.1) (u9.2.2.2) w_sp w_pc w_on w_wt w_ht w_bg w_cn w_al w_cl w_ie w_ww w_th w_mm w_bs)) ⟨hx, hb, hml, hown, hws⟩ hK hP hD hS hA hT (c_X4_less l D cB cI mo mb ma H.size w_zf w_nf w_hf w_cf w_sp w_pc w_on w_wt w_ht w_bg w_cn w_al w_cl w_ie w_ww w_th w_mm w_bs a2 (0 : Int32)) (cwV 2 hws (gw_V mw_506 mw_507 mw_508 mw_5 mw_509) rfl rfl rfl hdX4_less ⟨Nat.le_of_ble_eq_true rfl, Nat.le_of_ble_eq_true rfl⟩) [0, 1, 2] [] [0, 1] [0, 1, 2] rfl rfl rfl rfl (by decide) rfl (fun _ => rfl) rfl 0 rfl rfl rfl rfl hl.1 rfl (Nat.le_of_ble_eq_true rfl) dX4_sums_217 ⟨Nat.zero_le _, Nat.zero_le _⟩ (fun r69 u9 H locs hw68 hP hD hS => ?_)
                  obtain ⟨b64, b65, b66, b67⟩ := u9
                  have hP : va_P D vwCl (kX4 cB cI mo mb ma b64 b65 b66 b67 w_sp w_pc w_on w_wt w_ht w_bg w_cn w_al w_cl w_ie w_ww w_th w_mm w_bs) H := hP
                  have hD : va_D A (kX4 cB cI mo mb ma b64 b65 b66 b67 w_sp w_pc w_on w_wt w_ht w_bg w_cn w_al w_cl w_ie w_ww w_th w_mm w_bs) := hD
                  have hf := hf.trans (kE5 hw68)
                  refine lv_istore (lv' := [(4, .int r69), (3, .int (bI z2)), (0, .ref mo), (1, .int a1), (2, .int a2)]) hx hb dX4_sums_220 hl (by decide) rfl (fun ls hl => ?_)
                  rw [← hQ]
                  exact W.vret hx hb hr (fun t ht hW => ⟨⟨(b64, b65, b66, b67, w_bs), rfl, hf.symm, by rw [ht]; exact hP, va_K.moved hW.alike hK, hD⟩, hS.F ht⟩) hS.2.2 dX4_sums_222
  have hf := hTJ3
  refine lv_if_eq (tgt := 11) hx hb dX4_sums_4 (by decide) (fun c1 => ?_) (fun c1 => ?_)
  · have hf := hf.trans (kt_eq c1)
    refine lv_iconst (v := 0) hx hb dX4_sums_11 (by decide) ?_
    exact J3 false hf.symm H locs ls (lv_sub hl [0, 1, 2] rfl) hP hD hS
  · have hf := hf.trans (kf_eq c1)
    refine lv_iconst (v := 1) hx hb dX4_sums_7 (by decide) ?_
    refine lv_goto (tgt := 12) hx hb dX4_sums_8 (by decide) ?_
    exact J3 true hf.symm H locs ls (lv_sub hl [0, 1, 2] rfl) hP hD hS
def fX4_increased (w_zf : Bool) (w_nf : Bool) (w_hf : Bool) (w_cf : Bool) (a1 : Int32) : Int32 × Bool × Bool × Bool × Bool := (kU1 (((a1 + (1 : Int32)) &&& (255 : Int32))) (fun (x1 : Int32) => (kU1 (((kIf (kEq x1 (0 : Int32)) true false) : Bool)) (fun (z3 : Bool) => (kU1 (((kIf (kEq (x1 - x1 / (16 : Int32) * (16 : Int32)) (0 : Int32)) true false) : Bool)) (fun (z6 : Bool) => (kU4 (fX4_flagsAre w_zf w_nf w_hf w_cf z3 false z6 w_cf) (fun (b8 : Bool) (b9 : Bool) (b10 : Bool) (b11 : Bool) => (x1, b8, b9, b10, b11)))))))))
def rmX4_increased : Room := { frames := 1, cells := 0, slots := 0, locals := 24 }
def wwX4_increased : List Cond := Cond.code yX4_increased cX4_increased 3 (some .int) :: wsL_law
theorem hdX4_increased : yX4_increased.cls = RX4 ∧ yX4_increased.cls ≠ "java/lang/invoke/MethodHandle" ∧ yX4_increased.cls ≠ "java/lang/invoke/VarHandle" ∧ (parseMethodDescriptor yX4_increased.desc).map (fun d => d.parameters.length) = some 1 := by decide +kernel
set_option maxHeartbeats 4000000 in
set_option maxRecDepth 100000 in
theorem c_X4_increased (l : Launch) (D : va_G) (cB : ClassId) (cI : ClassId) (mo mb ma sz : Nat) (w_zf : Bool) (w_nf : Bool) (w_hf : Bool) (w_cf : Bool) (w_sp : Int32) (w_pc : Int32) (w_on : Bool) (w_wt : Bool) (w_ht : Bool) (w_bg : Bool) (w_cn : Int32) (w_al : Int32) (w_cl : Int32) (w_ie : Bool) (w_ww : Bool) (w_th : Int32) (w_mm : Nat → Int32) (w_bs : Nat → Int32) (a1 : Int32)  : Met l yX4_increased wwX4_increased rmX4_increased (va_Pc [.ref mo, .int a1] (kp D (kX4 cB cI mo mb ma w_zf w_nf w_hf w_cf w_sp w_pc w_on w_wt w_ht w_bg w_cn w_al w_cl w_ie w_ww w_th w_mm w_bs) [(cB, .byte), (cI, .int)] sz)) (va_Qi (fun (r : Int32) (u9 : Bool × Bool × Bool × Bool) => (r, u9) = fX4_increased w_zf w_nf w_hf w_cf a1) (fun u9 t => kq D (kX4 cB cI mo mb ma (u9.1) (u9.2.1) (u9.2.2.1) (u9.2.2.2) w_sp w_pc w_on w_wt w_ht w_bg w_cn w_al w_cl w_ie w_ww w_th w_mm w_bs) [(cB, .byte), (cI, .int)] (va_A (kX4 cB cI mo mb ma w_zf w_nf w_hf w_cf w_sp w_pc w_on w_wt w_ht w_bg w_cn w_al w_cl w_ie w_ww w_th w_mm w_bs) sz) t) (va_A (kX4 cB cI mo mb ma w_zf w_nf w_hf w_cf w_sp w_pc w_on w_wt w_ht w_bg w_cn w_al w_cl w_ie w_ww w_th w_mm w_bs) sz)) 0 0 (va_A (kX4 cB cI mo mb ma w_zf w_nf w_hf w_cf w_sp w_pc w_on w_wt w_ht w_bg w_cn w_al w_cl w_ie w_ww w_th w_mm w_bs) sz) := by
  refine Met.ofW (cc := cX4_increased) (maxL := 3) (ret := (some .int)) (by decide) rfl ?_
  intro p e s m args below meth c s₁ B hml hv
  obtain ⟨rfl, hsz, hP, hK, hD0, hT⟩ := hv
  have hx := B.exec
  have hb := B.bytes
  have hr := B.returns
  have hts := atoms_spec (ws := wwX4_increased) B.pre
  have hws : ∀ w ∈ wsL_law, w.before _ s = true := fun w h => hts w (List.mem_cons_of_mem _ h)
  have hown : s.vm.findClass RX4 = some m.cls := findClass_of_methodNamed B.named
  have hlocks := B.notSynchronized
  subst hsz
  have hD := hD0.self (sz := s.heap.size)
  generalize hAe : va_A (kX4 cB cI mo mb ma w_zf w_nf w_hf w_cf w_sp w_pc w_on w_wt w_ht w_bg w_cn w_al w_cl w_ie w_ww w_th w_mm w_bs) s.heap.size = A at hD hT ⊢
  have hA : ∀ q : Nat, s.heap.size ≤ q → A q := fun q h => by rw [← hAe]; exact Or.inr h
  have hS : va_S A s.heap s.heap [] := va_S.rf
  have hl := lv_entry ([.ref mo, .int a1]) (n := 3) (Nat.le_of_ble_eq_true rfl)
  rw [lg_entry_eq]
  generalize (lg_sl ([.ref mo, .int a1]) ++ List.replicate (3 - (lg_sl ([.ref mo, .int a1])).length) Slot.unset).toArray = ls at hl ⊢
  have hl : lv_has ls 3 [(0, .ref mo), (1, .int a1)] := hl
  generalize hQ : MQ _ _ _ _ _ _ _ = Q
  obtain ⟨H, hHe⟩ : ∃ H : Heap, H = s.heap := ⟨_, rfl⟩
  obtain ⟨locs, hle⟩ : ∃ L : List Loc, L = [] := ⟨_, rfl⟩
  have hP : va_P D vwCl (kX4 cB cI mo mb ma w_zf w_nf w_hf w_cf w_sp w_pc w_on w_wt w_ht w_bg w_cn w_al w_cl w_ie w_ww w_th w_mm w_bs) H := by rw [hHe]; exact hP
  have hS : va_S A s.heap H locs := by rw [hHe, hle]; exact hS
  refine kw_start hHe.symm hle.symm ?_
  have hf : fX4_increased w_zf w_nf w_hf w_cf a1 = fX4_increased w_zf w_nf w_hf w_cf a1 := rfl
  refine lv_iload_n hx hb dX4_increased_0 rfl (lv_at hl 1 rfl) ?_
  refine lv_iconst (v := 1) hx hb dX4_increased_1 (by decide) ?_
  refine lv_iadd hx hb dX4_increased_2 ?_
  refine lv_sipush (v := 255) hx hb dX4_increased_3 (by decide) ?_
  refine lv_iand hx hb dX4_increased_6 ?_
  refine lv_topi (fun x1 ex1 => ?_)
  have hf := hf.trans (kE1 ex1)
  refine lv_istore_n (lv' := [(2, .int x1), (0, .ref mo), (1, .int a1)]) hx hb dX4_increased_7 rfl hl (by decide) rfl (fun ls hl => ?_)
  refine lv_aload_n hx hb dX4_increased_8 rfl (lv_at hl 1 rfl) ?_
  refine lv_iload_n hx hb dX4_increased_9 rfl (lv_at hl 0 rfl) ?_
  obtain ⟨TJ4, hTJ4⟩ : ∃ T9 : Bool, T9 = (kIf (kEq x1 (0 : Int32)) true false) := ⟨_, rfl⟩
  have J4 : ∀ (z3 : Bool), z3 = TJ4 → ∀ (H : Heap) (locs : List Loc) (ls : Array Slot), lv_has ls 3 [(2, .int x1), (0, .ref mo), (1, .int a1)] → va_P D vwCl (kX4 cB cI mo mb ma w_zf w_nf w_hf w_cf w_sp w_pc w_on w_wt w_ht w_bg w_cn w_al w_cl w_ie w_ww w_th w_mm w_bs) H → va_D A (kX4 cB cI mo mb ma w_zf w_nf w_hf w_cf w_sp w_pc w_on w_wt w_ht w_bg w_cn w_al w_cl w_ie w_ww w_th w_mm w_bs) → va_S A s.heap H locs → W p l e (headSpec wwX4_increased rmX4_increased).room s m ([.ref mo, .int a1] : List Value).toArray below meth c H locs 0 0 Q (F0 m 18 ls [.int (bI z3), .ref mo]) := by
    intro z3 eJ4 H locs ls hl hP hD hS
    have hf := hf.trans (kE1 (eJ4.trans hTJ4))
    refine lv_iconst (v := 0) hx hb dX4_increased_18 (by decide) ?_
    refine lv_iload_n hx hb dX4_increased_19 rfl (lv_at hl 0 rfl) ?_
    refine lv_bipush (v := 16) hx hb dX4_increased_20 (by decide) ?_
    refine lv_irem hx hb dX4_increased_22 (by decide) ?_
    obtain ⟨TJ7, hTJ7⟩ : ∃ T9 : Bool, T9 = (kIf (kEq (x1 - x1 / (16 : Int32) * (16 : Int32)) (0 : Int32)) true false) := ⟨_, rfl⟩
    have J7 : ∀ (z6 : Bool), z6 = TJ7 → ∀ (H : Heap) (locs : List Loc) (ls : Array Slot), lv_has ls 3 [(2, .int x1), (0, .ref mo), (1, .int a1)] → va_P D vwCl (kX4 cB cI mo mb ma w_zf w_nf w_hf w_cf w_sp w_pc w_on w_wt w_ht w_bg w_cn w_al w_cl w_ie w_ww w_th w_mm w_bs) H → va_D A (kX4 cB cI mo mb ma w_zf w_nf w_hf w_cf w_sp w_pc w_on w_wt w_ht w_bg w_cn w_al w_cl w_ie w_ww w_th w_mm w_bs) → va_S A s.heap H locs → W p l e (headSpec wwX4_increased rmX4_increased).room s m ([.ref mo, .int a1] : List Value).toArray below meth c H locs 0 0 Q (F0 m 31 ls [.int (bI z6), .int (0 : Int32), .int (bI z3), .ref mo]) := by
      intro z6 eJ7 H locs ls hl hP hD hS
      have hf := hf.trans (kE1 (eJ7.trans hTJ7))
      refine lv_aload_n hx hb dX4_increased_31 rfl (lv_at hl 1 rfl) ?_
      refine va_get (D := D) (ci := 4) (v := .int (bI w_cf)) (C := RX4) (T := TX4) (N := 18) hx hb hws inlX4 hown hK hP 0 rfl rfl 5 (by decide) (hws _ mw_431) (fun _ h9 => h9) rfl dX4_increased_32 ?_
      refine kc_Vv (wr := []) (As := [.int (bI z3), .int (bI false), .int (bI z6), .int (bI w_cf)]) (rest := []) (fun u9 => (kX4 cB cI mo mb ma (u9.1) (u9.2.1) (u9.2.2.1) (u9.2.2.2) w_sp w_pc w_on w_wt w_ht w_bg w_cn w_al w_cl w_ie w_ww w_th w_mm w_bs)) ⟨hx, hb, hml, hown, hws⟩ hK hP hD hS hA hT (c_X4_flagsAre l D cB cI mo mb ma H.size w_zf w_nf w_hf w_cf w_sp w_pc w_on w_wt w_ht w_bg w_cn w_al w_cl w_ie w_ww w_th w_mm w_bs z3 false z6 w_cf) (cwV 4 hws (gw_V mw_448 mw_449 mw_450 mw_5 mw_451) rfl rfl rfl hdX4_flagsAre ⟨Nat.le_of_ble_eq_true rfl, Nat.le_of_ble_eq_true rfl⟩) [0, 1, 2] [] [0, 1] [0, 1, 2] rfl rfl rfl rfl (by decide) rfl (fun _ => rfl) rfl 0 rfl rfl rfl rfl hl.1 rfl (Nat.le_of_ble_eq_true rfl) dX4_increased_35 ⟨Nat.zero_le _, Nat.zero_le _⟩ (fun u9 H locs hw12 hP hD hS => ?_)
      obtain ⟨b8, b9, b10, b11⟩ := u9
      have hP : va_P D vwCl (kX4 cB cI mo mb ma b8 b9 b10 b11 w_sp w_pc w_on w_wt w_ht w_bg w_cn w_al w_cl w_ie w_ww w_th w_mm w_bs) H := hP
      have hD : va_D A (kX4 cB cI mo mb ma b8 b9 b10 b11 w_sp w_pc w_on w_wt w_ht w_bg w_cn w_al w_cl w_ie w_ww w_th w_mm w_bs) := hD
      have hf := hf.trans (kE4 hw12)
      refine lv_iload_n hx hb dX4_increased_38 rfl (lv_at hl 0 rfl) ?_
      rw [← hQ]
      exact W.iret (v := x1) hx hb hr (fun t ht hW => ⟨⟨x1, (b8, b9, b10, b11), rfl, hf.symm, by rw [ht]; exact hP, va_K.moved hW.alike hK, hD⟩, hS.F ht⟩) hS.2.2 dX4_increased_39
    have hf := hTJ7
    refine lv_if_ne (tgt := 30) hx hb dX4_increased_23 (by decide) (fun c5 => ?_) (fun c5 => ?_)
    · have hf := hf.trans (kf_eq c5)
      refine lv_iconst (v := 0) hx hb dX4_increased_30 (by decide) ?_
      exact J7 false hf.symm H locs ls (lv_sub hl [0, 1, 2] rfl) hP hD hS
    · have hf := hf.trans (kt_eq c5)
      refine lv_iconst (v := 1) hx hb dX4_increased_26 (by decide) ?_
      refine lv_goto (tgt := 31) hx hb dX4_increased_27 (by decide) ?_
      exact J7 true hf.symm H locs ls (lv_sub hl [0, 1, 2] rfl) hP hD hS
  have hf := hTJ4
  refine lv_if_ne (tgt := 17) hx hb dX4_increased_10 (by decide) (fun c2 => ?_) (fun c2 => ?_)
  · have hf := hf.trans (kf_eq c2)
    refine lv_iconst (v := 0) hx hb dX4_increased_17 (by decide) ?_
    exact J4 false hf.symm H locs ls (lv_sub hl [0, 1, 2] rfl) hP hD hS
  · have hf := hf.trans (kt_eq c2)
    refine lv_iconst (v := 1) hx hb dX4_increased_13 (by decide) ?_
    refine lv_goto (tgt := 18) hx hb dX4_increased_14 (by decide) ?_
    exact J4 true hf.symm H locs ls (lv_sub hl [0, 1, 2] rfl) hP hD hS
def fX4_decreased (w_zf : Bool) (w_nf : Bool) (w_hf : Bool) (w_cf : Bool) (a1 : Int32) : Int32 × Bool × Bool × Bool × Bool := (kU1 (((a1 - (1 : Int32)) &&& (255 : Int32))) (fun (x1 : Int32) => (kU1 (((kIf (kEq x1 (0 : Int32)) true false) : Bool)) (fun (z3 : Bool) => (kU1 (((kIf (kEq (x1 - x1 / (16 : Int32) * (16 : Int32)) (15 : Int32)) true false) : Bool)) (fun (z6 : Bool) => (kU4 (fX4_flagsAre w_zf w_nf w_hf w_cf z3 true z6 w_cf) (fun (b8 : Bool) (b9 : Bool) (b10 : Bool) (b11 : Bool) => (x1, b8, b9, b10, b11)))))))))
def rmX4_decreased : Room := { frames := 1, cells := 0, slots := 0, locals := 24 }
def wwX4_decreased : List Cond := Cond.code yX4_decreased cX4_decreased 3 (some .int) :: wsL_law
theorem hdX4_decreased : yX4_decreased.cls = RX4 ∧ yX4_decreased.cls ≠ "java/lang/invoke/MethodHandle" ∧ yX4_decreased.cls ≠ "java/lang/invoke/VarHandle" ∧ (parseMethodDescriptor yX4_decreased.desc).map (fun d => d.parameters.length) = some 1 := by decide +kernel
set_option maxHeartbeats 4000000 in
set_option maxRecDepth 100000 in
theorem c_X4_decreased (l : Launch) (D : va_G) (cB : ClassId) (cI : ClassId) (mo mb ma sz : Nat) (w_zf : Bool) (w_nf : Bool) (w_hf : Bool) (w_cf : Bool) (w_sp : Int32) (w_pc : Int32) (w_on : Bool) (w_wt : Bool) (w_ht : Bool) (w_bg : Bool) (w_cn : Int32) (w_al : Int32) (w_cl : Int32) (w_ie : Bool) (w_ww : Bool) (w_th : Int32) (w_mm : Nat → Int32) (w_bs : Nat → Int32) (a1 : Int32)  : Met l yX4_decreased wwX4_decreased rmX4_decreased (va_Pc [.ref mo, .int a1] (kp D (kX4 cB cI mo mb ma w_zf w_nf w_hf w_cf w_sp w_pc w_on w_wt w_ht w_bg w_cn w_al w_cl w_ie w_ww w_th w_mm w_bs) [(cB, .byte), (cI, .int)] sz)) (va_Qi (fun (r : Int32) (u9 : Bool × Bool × Bool × Bool) => (r, u9) = fX4_decreased w_zf w_nf w_hf w_cf a1) (fun u9 t => kq D (kX4 cB cI mo mb ma (u9.1) (u9.2.1) (u9.2.2.1) (u9.2.2.2) w_sp w_pc w_on w_wt w_ht w_bg w_cn w_al w_cl w_ie w_ww w_th w_mm w_bs) [(cB, .byte), (cI, .int)] (va_A (kX4 cB cI mo mb ma w_zf w_nf w_hf w_cf w_sp w_pc w_on w_wt w_ht w_bg w_cn w_al w_cl w_ie w_ww w_th w_mm w_bs) sz) t) (va_A (kX4 cB cI mo mb ma w_zf w_nf w_hf w_cf w_sp w_pc w_on w_wt w_ht w_bg w_cn w_al w_cl w_ie w_ww w_th w_mm w_bs) sz)) 0 0 (va_A (kX4 cB cI mo mb ma w_zf w_nf w_hf w_cf w_sp w_pc w_on w_wt w_ht w_bg w_cn w_al w_cl w_ie w_ww w_th w_mm w_bs) sz) := by
  refine Met.ofW (cc := cX4_decreased) (maxL := 3) (ret := (some .int)) (by decide) rfl ?_
  intro p e s m args below meth c s₁ B hml hv
  obtain ⟨rfl, hsz, hP, hK, hD0, hT⟩ := hv
  have hx := B.exec
  have hb := B.bytes
  have hr := B.returns
  have hts := atoms_spec (ws := wwX4_decreased) B.pre
  have hws : ∀ w ∈ wsL_law, w.before _ s = true := fun w h => hts w (List.mem_cons_of_mem _ h)
  have hown : s.vm.findClass RX4 = some m.cls := findClass_of_methodNamed B.named
  have hlocks := B.notSynchronized
  subst hsz
  have hD := hD0.self (sz := s.heap.size)
  generalize hAe : va_A (kX4 cB cI mo mb ma w_zf w_nf w_hf w_cf w_sp w_pc w_on w_wt w_ht w_bg w_cn w_al w_cl w_ie w_ww w_th w_mm w_bs) s.heap.size = A at hD hT ⊢
  have hA : ∀ q : Nat, s.heap.size ≤ q → A q := fun q h => by rw [← hAe]; exact Or.inr h
  have hS : va_S A s.heap s.heap [] := va_S.rf
  have hl := lv_entry ([.ref mo, .int a1]) (n := 3) (Nat.le_of_ble_eq_true rfl)
  rw [lg_entry_eq]
  generalize (lg_sl ([.ref mo, .int a1]) ++ List.replicate (3 - (lg_sl ([.ref mo, .int a1])).length) Slot.unset).toArray = ls at hl ⊢
  have hl : lv_has ls 3 [(0, .ref mo), (1, .int a1)] := hl
  generalize hQ : MQ _ _ _ _ _ _ _ = Q
  obtain ⟨H, hHe⟩ : ∃ H : Heap, H = s.heap := ⟨_, rfl⟩
  obtain ⟨locs, hle⟩ : ∃ L : List Loc, L = [] := ⟨_, rfl⟩
  have hP : va_P D vwCl (kX4 cB cI mo mb ma w_zf w_nf w_hf w_cf w_sp w_pc w_on w_wt w_ht w_bg w_cn w_al w_cl w_ie w_ww w_th w_mm w_bs) H := by rw [hHe]; exact hP
  have hS : va_S A s.heap H locs := by rw [hHe, hle]; exact hS
  refine kw_start hHe.symm hle.symm ?_
  have hf : fX4_decreased w_zf w_nf w_hf w_cf a1 = fX4_decreased w_zf w_nf w_hf w_cf a1 := rfl
  refine lv_iload_n hx hb dX4_decreased_0 rfl (lv_at hl 1 rfl) ?_
  refine lv_iconst (v := 1) hx hb dX4_decreased_1 (by decide) ?_
  refine lv_isub hx hb dX4_decreased_2 ?_
  refine lv_sipush (v := 255) hx hb dX4_decreased_3 (by decide) ?_
  refine lv_iand hx hb dX4_decreased_6 ?_
  refine lv_topi (fun x1 ex1 => ?_)
  have hf := hf.trans (kE1 ex1)
  refine lv_istore_n (lv' := [(2, .int x1), (0, .ref mo), (1, .int a1)]) hx hb dX4_decreased_7 rfl hl (by decide) rfl (fun ls hl => ?_)
  refine lv_aload_n hx hb dX4_decreased_8 rfl (lv_at hl 1 rfl) ?_
  refine lv_iload_n hx hb dX4_decreased_9 rfl (lv_at hl 0 rfl) ?_
  obtain ⟨TJ4, hTJ4⟩ : ∃ T9 : Bool, T9 = (kIf (kEq x1 (0 : Int32)) true false) := ⟨_, rfl⟩
  have J4 : ∀ (z3 : Bool), z3 = TJ4 → ∀ (H : Heap) (locs : List Loc) (ls : Array Slot), lv_has ls 3 [(2, .int x1), (0, .ref mo), (1, .int a1)] → va_P D vwCl (kX4 cB cI mo mb ma w_zf w_nf w_hf w_cf w_sp w_pc w_on w_wt w_ht w_bg w_cn w_al w_cl w_ie w_ww w_th w_mm w_bs) H → va_D A (kX4 cB cI mo mb ma w_zf w_nf w_hf w_cf w_sp w_pc w_on w_wt w_ht w_bg w_cn w_al w_cl w_ie w_ww w_th w_mm w_bs) → va_S A s.heap H locs → W p l e (headSpec wwX4_decreased rmX4_decreased).room s m ([.ref mo, .int a1] : List Value).toArray below meth c H locs 0 0 Q (F0 m 18 ls [.int (bI z3), .ref mo]) := by
    intro z3 eJ4 H locs ls hl hP hD hS
    have hf := hf.trans (kE1 (eJ4.trans hTJ4))
    refine lv_iconst (v := 1) hx hb dX4_decreased_18 (by decide) ?_
    refine lv_iload_n hx hb dX4_decreased_19 rfl (lv_at hl 0 rfl) ?_
    refine lv_bipush (v := 16) hx hb dX4_decreased_20 (by decide) ?_
    refine lv_irem hx hb dX4_decreased_22 (by decide) ?_
    refine lv_bipush (v := 15) hx hb dX4_decreased_23 (by decide) ?_
    obtain ⟨TJ7, hTJ7⟩ : ∃ T9 : Bool, T9 = (kIf (kEq (x1 - x1 / (16 : Int32) * (16 : Int32)) (15 : Int32)) true false) := ⟨_, rfl⟩
    have J7 : ∀ (z6 : Bool), z6 = TJ7 → ∀ (H : Heap) (locs : List Loc) (ls : Array Slot), lv_has ls 3 [(2, .int x1), (0, .ref mo), (1, .int a1)] → va_P D vwCl (kX4 cB cI mo mb ma w_zf w_nf w_hf w_cf w_sp w_pc w_on w_wt w_ht w_bg w_cn w_al w_cl w_ie w_ww w_th w_mm w_bs) H → va_D A (kX4 cB cI mo mb ma w_zf w_nf w_hf w_cf w_sp w_pc w_on w_wt w_ht w_bg w_cn w_al w_cl w_ie w_ww w_th w_mm w_bs) → va_S A s.heap H locs → W p l e (headSpec wwX4_decreased rmX4_decreased).room s m ([.ref mo, .int a1] : List Value).toArray below meth c H locs 0 0 Q (F0 m 33 ls [.int (bI z6), .int (1 : Int32), .int (bI z3), .ref mo]) := by
      intro z6 eJ7 H locs ls hl hP hD hS
      have hf := hf.trans (kE1 (eJ7.trans hTJ7))
      refine lv_aload_n hx hb dX4_decreased_33 rfl (lv_at hl 1 rfl) ?_
      refine va_get (D := D) (ci := 4) (v := .int (bI w_cf)) (C := RX4) (T := TX4) (N := 18) hx hb hws inlX4 hown hK hP 0 rfl rfl 5 (by decide) (hws _ mw_431) (fun _ h9 => h9) rfl dX4_decreased_34 ?_
      refine kc_Vv (wr := []) (As := [.int (bI z3), .int (bI true), .int (bI z6), .int (bI w_cf)]) (rest := []) (fun u9 => (kX4 cB cI mo mb ma (u9.1) (u9.2.1) (u9.2.2.1) (u9.2.2.2) w_sp w_pc w_on w_wt w_ht w_bg w_cn w_al w_cl w_ie w_ww w_th w_mm w_bs)) ⟨hx, hb, hml, hown, hws⟩ hK hP hD hS hA hT (c_X4_flagsAre l D cB cI mo mb ma H.size w_zf w_nf w_hf w_cf w_sp w_pc w_on w_wt w_ht w_bg w_cn w_al w_cl w_ie w_ww w_th w_mm w_bs z3 true z6 w_cf) (cwV 4 hws (gw_V mw_448 mw_449 mw_450 mw_5 mw_451) rfl rfl rfl hdX4_flagsAre ⟨Nat.le_of_ble_eq_true rfl, Nat.le_of_ble_eq_true rfl⟩) [0, 1, 2] [] [0, 1] [0, 1, 2] rfl rfl rfl rfl (by decide) rfl (fun _ => rfl) rfl 0 rfl rfl rfl rfl hl.1 rfl (Nat.le_of_ble_eq_true rfl) dX4_decreased_37 ⟨Nat.zero_le _, Nat.zero_le _⟩ (fun u9 H locs hw12 hP hD hS => ?_)
      obtain ⟨b8, b9, b10, b11⟩ := u9
      have hP : va_P D vwCl (kX4 cB cI mo mb ma b8 b9 b10 b11 w_sp w_pc w_on w_wt w_ht w_bg w_cn w_al w_cl w_ie w_ww w_th w_mm w_bs) H := hP
      have hD : va_D A (kX4 cB cI mo mb ma b8 b9 b10 b11 w_sp w_pc w_on w_wt w_ht w_bg w_cn w_al w_cl w_ie w_ww w_th w_mm w_bs) := hD
      have hf := hf.trans (kE4 hw12)
      refine lv_iload_n hx hb dX4_decreased_40 rfl (lv_at hl 0 rfl) ?_
      rw [← hQ]
      exact W.iret (v := x1) hx hb hr (fun t ht hW => ⟨⟨x1, (b8, b9, b10, b11), rfl, hf.symm, by rw [ht]; exact hP, va_K.moved hW.alike hK, hD⟩, hS.F ht⟩) hS.2.2 dX4_decreased_41
    have hf := hTJ7
    refine lv_icmp_ne (tgt := 32) hx hb dX4_decreased_25 (by decide) (fun c5 => ?_) (fun c5 => ?_)
    · have hf := hf.trans (kf_eq c5)
      refine lv_iconst (v := 0) hx hb dX4_decreased_32 (by decide) ?_
      exact J7 false hf.symm H locs ls (lv_sub hl [0, 1, 2] rfl) hP hD hS
    · have hf := hf.trans (kt_eq c5)
      refine lv_iconst (v := 1) hx hb dX4_decreased_28 (by decide) ?_
      refine lv_goto (tgt := 33) hx hb dX4_decreased_29 (by decide) ?_
      exact J7 true hf.symm H locs ls (lv_sub hl [0, 1, 2] rfl) hP hD hS
  have hf := hTJ4
  refine lv_if_ne (tgt := 17) hx hb dX4_decreased_10 (by decide) (fun c2 => ?_) (fun c2 => ?_)
  · have hf := hf.trans (kf_eq c2)
    refine lv_iconst (v := 0) hx hb dX4_decreased_17 (by decide) ?_
    exact J4 false hf.symm H locs ls (lv_sub hl [0, 1, 2] rfl) hP hD hS
  · have hf := hf.trans (kt_eq c2)
    refine lv_iconst (v := 1) hx hb dX4_decreased_13 (by decide) ?_
    refine lv_goto (tgt := 18) hx hb dX4_decreased_14 (by decide) ?_
    exact J4 true hf.symm H locs ls (lv_sub hl [0, 1, 2] rfl) hP hD hS
def fX4_turned (w_zf : Bool) (w_nf : Bool) (w_hf : Bool) (w_cf : Bool) (a1 : Int32) (a2 : Int32) : Int32 × Bool × Bool × Bool × Bool := (kU1 (((kIf (kEq (bI w_cf) (0 : Int32)) false true) : Bool)) (fun (z2 : Bool) => (kU1 (((kIf (kEq (a1 - a1 / (2 : Int32) * (2 : Int32)) (0 : Int32)) (kIf (kLe a2 (127 : Int32)) false true) (kIf (kEq (a2 - a2 / (2 : Int32) * (2 : Int32)) (1 : Int32)) true false)) : Bool)) (fun (z7 : Bool) => (kU2 (((kIf (kEq a1 (0 : Int32)) (kU1 (((a2 <<< ((1 : Int32) &&& (31 : Int32))) ||| (a2 >>> ((7 : Int32) &&& (31 : Int32))))) (fun (x10 : Int32) => (x10, z7))) (kIf (kEq a1 (1 : Int32)) (kU1 (((a2 >>> ((1 : Int32) &&& (31 : Int32))) ||| (a2 <<< ((7 : Int32) &&& (31 : Int32))))) (fun (x12 : Int32) => (x12, z7))) (kIf (kEq a1 (2 : Int32)) (kU1 (((a2 <<< ((1 : Int32) &&& (31 : Int32))) ||| bI z2)) (fun (x14 : Int32) => (x14, z7))) (kIf (kEq a1 (3 : Int32)) (kU1 (((a2 >>> ((1 : Int32) &&& (31 : Int32))) ||| (bI z2 <<< ((7 : Int32) &&& (31 : Int32))))) (fun (x16 : Int32) => (x16, z7))) (kIf (kEq a1 (4 : Int32)) (kU1 ((a2 <<< ((1 : Int32) &&& (31 : Int32)))) (fun (x18 : Int32) => (x18, z7))) (kIf (kEq a1 (5 : Int32)) (kU1 (((a2 >>> ((1 : Int32) &&& (31 : Int32))) ||| (a2 &&& (128 : Int32)))) (fun (x20 : Int32) => (x20, z7))) (kIf (kEq a1 (6 : Int32)) (kU1 (((a2 <<< ((4 : Int32) &&& (31 : Int32))) ||| (a2 >>> ((4 : Int32) &&& (31 : Int32))))) (fun (x22 : Int32) => (x22, false))) (kU1 ((a2 >>> ((1 : Int32) &&& (31 : Int32)))) (fun (x23 : Int32) => (x23, z7)))))))))) : Int32 × Bool)) (fun (x24 : Int32) (z25 : Bool) => (kU1 ((x24 &&& (255 : Int32))) (fun (x27 : Int32) => (kU1 (((kIf (kEq x27 (0 : Int32)) true false) : Bool)) (fun (z29 : Bool) => (kU4 (fX4_flagsAre w_zf w_nf w_hf w_cf z29 false false z25) (fun (b31 : Bool) (b32 : Bool) (b33 : Bool) (b34 : Bool) => (x27, b31, b32, b33, b34)))))))))))))
def rmX4_turned : Room := { frames := 1, cells := 0, slots := 0, locals := 24 }
def wwX4_turned : List Cond := Cond.code yX4_turned cX4_turned 6 (some .int) :: wsL_law
theorem hdX4_turned : yX4_turned.cls = RX4 ∧ yX4_turned.cls ≠ "java/lang/invoke/MethodHandle" ∧ yX4_turned.cls ≠ "java/lang/invoke/VarHandle" ∧ (parseMethodDescriptor yX4_turned.desc).map (fun d => d.parameters.length) = some 2 := by decide +kernel
set_option maxHeartbeats 4000000 in
set_option maxRecDepth 100000 in
theorem c_X4_turned (l : Launch) (D : va_G) (cB : ClassId) (cI : ClassId) (mo mb ma sz : Nat) (w_zf : Bool) (w_nf : Bool) (w_hf : Bool) (w_cf : Bool) (w_sp : Int32) (w_pc : Int32) (w_on : Bool) (w_wt : Bool) (w_ht : Bool) (w_bg : Bool) (w_cn : Int32) (w_al : Int32) (w_cl : Int32) (w_ie : Bool) (w_ww : Bool) (w_th : Int32) (w_mm : Nat → Int32) (w_bs : Nat → Int32) (a1 : Int32) (a2 : Int32)  : Met l yX4_turned wwX4_turned rmX4_turned (va_Pc [.ref mo, .int a1, .int a2] (kp D (kX4 cB cI mo mb ma w_zf w_nf w_hf w_cf w_sp w_pc w_on w_wt w_ht w_bg w_cn w_al w_cl w_ie w_ww w_th w_mm w_bs) [(cB, .byte), (cI, .int)] sz)) (va_Qi (fun (r : Int32) (u9 : Bool × Bool × Bool × Bool) => (r, u9) = fX4_turned w_zf w_nf w_hf w_cf a1 a2) (fun u9 t => kq D (kX4 cB cI mo mb ma (u9.1) (u9.2.1) (u9.2.2.1) (u9.2.2.2) w_sp w_pc w_on w_wt w_ht w_bg w_cn w_al w_cl w_ie w_ww w_th w_mm w_bs) [(cB, .byte), (cI, .int)] (va_A (kX4 cB cI mo mb ma w_zf w_nf w_hf w_cf w_sp w_pc w_on w_wt w_ht w_bg w_cn w_al w_cl w_ie w_ww w_th w_mm w_bs) sz) t) (va_A (kX4 cB cI mo mb ma w_zf w_nf w_hf w_cf w_sp w_pc w_on w_wt w_ht w_bg w_cn w_al w_cl w_ie w_ww w_th w_mm w_bs) sz)) 0 0 (va_A (kX4 cB cI mo mb ma w_zf w_nf w_hf w_cf w_sp w_pc w_on w_wt w_ht w_bg w_cn w_al w_cl w_ie w_ww w_th w_mm w_bs) sz) := by
  refine Met.ofW (cc := cX4_turned) (maxL := 6) (ret := (some .int)) (by decide) rfl ?_
  intro p e s m args below meth c s₁ B hml hv
  obtain ⟨rfl, hsz, hP, hK, hD0, hT⟩ := hv
  have hx := B.exec
  have hb := B.bytes
  have hr := B.returns
  have hts := atoms_spec (ws := wwX4_turned) B.pre
  have hws : ∀ w ∈ wsL_law, w.before _ s = true := fun w h => hts w (List.mem_cons_of_mem _ h)
  have hown : s.vm.findClass RX4 = some m.cls := findClass_of_methodNamed B.named
  have hlocks := B.notSynchronized
  subst hsz
  have hD := hD0.self (sz := s.heap.size)
  generalize hAe : va_A (kX4 cB cI mo mb ma w_zf w_nf w_hf w_cf w_sp w_pc w_on w_wt w_ht w_bg w_cn w_al w_cl w_ie w_ww w_th w_mm w_bs) s.heap.size = A at hD hT ⊢
  have hA : ∀ q : Nat, s.heap.size ≤ q → A q := fun q h => by rw [← hAe]; exact Or.inr h
  have hS : va_S A s.heap s.heap [] := va_S.rf
  have hl := lv_entry ([.ref mo, .int a1, .int a2]) (n := 6) (Nat.le_of_ble_eq_true rfl)
  rw [lg_entry_eq]
  generalize (lg_sl ([.ref mo, .int a1, .int a2]) ++ List.replicate (6 - (lg_sl ([.ref mo, .int a1, .int a2])).length) Slot.unset).toArray = ls at hl ⊢
  have hl : lv_has ls 6 [(0, .ref mo), (1, .int a1), (2, .int a2)] := hl
  generalize hQ : MQ _ _ _ _ _ _ _ = Q
  obtain ⟨H, hHe⟩ : ∃ H : Heap, H = s.heap := ⟨_, rfl⟩
  obtain ⟨locs, hle⟩ : ∃ L : List Loc, L = [] := ⟨_, rfl⟩
  have hP : va_P D vwCl (kX4 cB cI mo mb ma w_zf w_nf w_hf w_cf w_sp w_pc w_on w_wt w_ht w_bg w_cn w_al w_cl w_ie w_ww w_th w_mm w_bs) H := by rw [hHe]; exact hP
  have hS : va_S A s.heap H locs := by rw [hHe, hle]; exact hS
  refine kw_start hHe.symm hle.symm ?_
  have hf : fX4_turned w_zf w_nf w_hf w_cf a1 a2 = fX4_turned w_zf w_nf w_hf w_cf a1 a2 := rfl
  refine lv_aload_n hx hb dX4_turned_0 rfl (lv_at hl 0 rfl) ?_
  refine va_get (D := D) (ci := 4) (v := .int (bI w_cf)) (C := RX4) (T := TX4) (N := 18) hx hb hws inlX4 hown hK hP 0 rfl rfl 5 (by decide) (hws _ mw_431) (fun _ h9 => h9) rfl dX4_turned_1 ?_
  obtain ⟨TJ3, hTJ3⟩ : ∃ T9 : Bool, T9 = (kIf (kEq (bI w_cf) (0 : Int32)) false true) := ⟨_, rfl⟩
  have J3 : ∀ (z2 : Bool), z2 = TJ3 → ∀ (H : Heap) (locs : List Loc) (ls : Array Slot), lv_has ls 6 [(0, .ref mo), (1, .int a1), (2, .int a2)] → va_P D vwCl (kX4 cB cI mo mb ma w_zf w_nf w_hf w_cf w_sp w_pc w_on w_wt w_ht w_bg w_cn w_al w_cl w_ie w_ww w_th w_mm w_bs) H → va_D A (kX4 cB cI mo mb ma w_zf w_nf w_hf w_cf w_sp w_pc w_on w_wt w_ht w_bg w_cn w_al w_cl w_ie w_ww w_th w_mm w_bs) → va_S A s.heap H locs → W p l e (headSpec wwX4_turned rmX4_turned).room s m ([.ref mo, .int a1, .int a2] : List Value).toArray below meth c H locs 0 0 Q (F0 m 12 ls [.int (bI z2)]) := by
    intro z2 eJ3 H locs ls hl hP hD hS
    have hf := hf.trans (kE1 (eJ3.trans hTJ3))
    refine lv_istore_n (lv' := [(3, .int (bI z2)), (0, .ref mo), (1, .int a1), (2, .int a2)]) hx hb dX4_turned_12 rfl hl (by decide) rfl (fun ls hl => ?_)
    refine lv_iload_n hx hb dX4_turned_13 rfl (lv_at hl 2 rfl) ?_
    refine lv_iconst (v := 2) hx hb dX4_turned_14 (by decide) ?_
    refine lv_irem hx hb dX4_turned_15 (by decide) ?_
    obtain ⟨TJ8, hTJ8⟩ : ∃ T9 : Bool, T9 = (kIf (kEq (a1 - a1 / (2 : Int32) * (2 : Int32)) (0 : Int32)) (kIf (kLe a2 (127 : Int32)) false true) (kIf (kEq (a2 - a2 / (2 : Int32) * (2 : Int32)) (1 : Int32)) true false)) := ⟨_, rfl⟩
    have J8 : ∀ (z7 : Bool), z7 = TJ8 → ∀ (H : Heap) (locs : List Loc) (ls : Array Slot), lv_has ls 6 [(3, .int (bI z2)), (0, .ref mo), (1, .int a1), (2, .int a2)] → va_P D vwCl (kX4 cB cI mo mb ma w_zf w_nf w_hf w_cf w_sp w_pc w_on w_wt w_ht w_bg w_cn w_al w_cl w_ie w_ww w_th w_mm w_bs) H → va_D A (kX4 cB cI mo mb ma w_zf w_nf w_hf w_cf w_sp w_pc w_on w_wt w_ht w_bg w_cn w_al w_cl w_ie w_ww w_th w_mm w_bs) → va_S A s.heap H locs → W p l e (headSpec wwX4_turned rmX4_turned).room s m ([.ref mo, .int a1, .int a2] : List Value).toArray below meth c H locs 0 0 Q (F0 m 45 ls [.int (bI z7)]) := by
      intro z7 eJ8 H locs ls hl hP hD hS
      have hf := hf.trans (kE1 (eJ8.trans hTJ8))
      refine lv_istore (lv' := [(5, .int (bI z7)), (3, .int (bI z2)), (0, .ref mo), (1, .int a1), (2, .int a2)]) hx hb dX4_turned_45 hl (by decide) rfl (fun ls hl => ?_)
      refine lv_iload_n hx hb dX4_turned_47 rfl (lv_at hl 3 rfl) ?_
      obtain ⟨TJ26, hTJ26⟩ : ∃ T9 : Int32 × Bool, T9 = (kIf (kEq a1 (0 : Int32)) (kU1 (((a2 <<< ((1 : Int32) &&& (31 : Int32))) ||| (a2 >>> ((7 : Int32) &&& (31 : Int32))))) (fun (x10 : Int32) => (x10, z7))) (kIf (kEq a1 (1 : Int32)) (kU1 (((a2 >>> ((1 : Int32) &&& (31 : Int32))) ||| (a2 <<< ((7 : Int32) &&& (31 : Int32))))) (fun (x12 : Int32) => (x12, z7))) (kIf (kEq a1 (2 : Int32)) (kU1 (((a2 <<< ((1 : Int32) &&& (31 : Int32))) ||| bI z2)) (fun (x14 : Int32) => (x14, z7))) (kIf (kEq a1 (3 : Int32)) (kU1 (((a2 >>> ((1 : Int32) &&& (31 : Int32))) ||| (bI z2 <<< ((7 : Int32) &&& (31 : Int32))))) (fun (x16 : Int32) => (x16, z7))) (kIf (kEq a1 (4 : Int32)) (kU1 ((a2 <<< ((1 : Int32) &&& (31 : Int32)))) (fun (x18 : Int32) => (x18, z7))) (kIf (kEq a1 (5 : Int32)) (kU1 (((a2 >>> ((1 : Int32) &&& (31 : Int32))) ||| (a2 &&& (128 : Int32)))) (fun (x20 : Int32) => (x20, z7))) (kIf (kEq a1 (6 : Int32)) (kU1 (((a2 <<< ((4 : Int32) &&& (31 : Int32))) ||| (a2 >>> ((4 : Int32) &&& (31 : Int32))))) (fun (x22 : Int32) => (x22, false))) (kU1 ((a2 >>> ((1 : Int32) &&& (31 : Int32)))) (fun (x23 : Int32) => (x23, z7)))))))))) := ⟨_, rfl⟩
      have J26 : ∀ (x24 : Int32) (z25 : Bool), (x24, z25) = TJ26 → ∀ (H : Heap) (locs : List Loc) (ls : Array Slot), lv_has ls 6 [(4, .int x24), (5, .int (bI z25)), (3, .int (bI z2)), (0, .ref mo), (1, .int a1), (2, .int a2)] → va_P D vwCl (kX4 cB cI mo mb ma w_zf w_nf w_hf w_cf w_sp w_pc w_on w_wt w_ht w_bg w_cn w_al w_cl w_ie w_ww w_th w_mm w_bs) H → va_D A (kX4 cB cI mo mb ma w_zf w_nf w_hf w_cf w_sp w_pc w_on w_wt w_ht w_bg w_cn w_al w_cl w_ie w_ww w_th w_mm w_bs) → va_S A s.heap H locs → W p l e (headSpec wwX4_turned rmX4_turned).room s m ([.ref mo, .int a1, .int a2] : List Value).toArray below meth c H locs 0 0 Q (F0 m 183 ls []) := by
        intro x24 z25 eJ26 H locs ls hl hP hD hS
        have hf := hf.trans (kE2 (eJ26.trans hTJ26))
        refine lv_iload hx hb dX4_turned_183 (lv_at hl 0 rfl) ?_
        refine lv_sipush (v := 255) hx hb dX4_turned_185 (by decide) ?_
        refine lv_iand hx hb dX4_turned_188 ?_
        refine lv_topi (fun x27 ex27 => ?_)
        have hf := hf.trans (kE1 ex27)
        refine lv_istore (lv' := [(4, .int x27), (5, .int (bI z25)), (3, .int (bI z2)), (0, .ref mo), (1, .int a1), (2, .int a2)]) hx hb dX4_turned_189 hl (by decide) rfl (fun ls hl => ?_)
        refine lv_aload_n hx hb dX4_turned_191 rfl (lv_at hl 3 rfl) ?_
        refine lv_iload hx hb dX4_turned_192 (lv_at hl 0 rfl) ?_
        obtain ⟨TJ30, hTJ30⟩ : ∃ T9 : Bool, T9 = (kIf (kEq x27 (0 : Int32)) true false) := ⟨_, rfl⟩
        have J30 : ∀ (z29 : Bool), z29 = TJ30 → ∀ (H : Heap) (locs : List Loc) (ls : Array Slot), lv_has ls 6 [(4, .int x27), (5, .int (bI z25)), (3, .int (bI z2)), (0, .ref mo), (1, .int a1), (2, .int a2)] → va_P D vwCl (kX4 cB cI mo mb ma w_zf w_nf w_hf w_cf w_sp w_pc w_on w_wt w_ht w_bg w_cn w_al w_cl w_ie w_ww w_th w_mm w_bs) H → va_D A (kX4 cB cI mo mb ma w_zf w_nf w_hf w_cf w_sp w_pc w_on w_wt w_ht w_bg w_cn w_al w_cl w_ie w_ww w_th w_mm w_bs) → va_S A s.heap H locs → W p l e (headSpec wwX4_turned rmX4_turned).room s m ([.ref mo, .int a1, .int a2] : List Value).toArray below meth c H locs 0 0 Q (F0 m 202 ls [.int (bI z29), .ref mo]) := by
          intro z29 eJ30 H locs ls hl hP hD hS
          have hf := hf.trans (kE1 (eJ30.trans hTJ30))
          refine lv_iconst (v := 0) hx hb dX4_turned_202 (by decide) ?_
          refine lv_iconst (v := 0) hx hb dX4_turned_203 (by decide) ?_
          refine lv_iload hx hb dX4_turned_204 (lv_at hl 1 rfl) ?_
          refine kc_Vv (wr := []) (As := [.int (bI z29), .int (bI false), .int (bI false), .int (bI z25)]) (rest := []) (fun u9 => (kX4 cB cI mo mb ma (u9.1) (u9.2.1) (u9.2.2.1) (u9.2.2.2) w_sp w_pc w_on w_wt w_ht w_bg w_cn w_al w_cl w_ie w_ww w_th w_mm w_bs)) ⟨hx, hb, hml, hown, hws⟩ hK hP hD hS hA hT (c_X4_flagsAre l D cB cI mo mb ma H.size w_zf w_nf w_hf w_cf w_sp w_pc w_on w_wt w_ht w_bg w_cn w_al w_cl w_ie w_ww w_th w_mm w_bs z29 false false z25) (cwV 4 hws (gw_V mw_448 mw_449 mw_450 mw_5 mw_451) rfl rfl rfl hdX4_flagsAre ⟨Nat.le_of_ble_eq_true rfl, Nat.le_of_ble_eq_true rfl⟩) [0, 1, 2] [] [0, 1] [0, 1, 2] rfl rfl rfl rfl (by decide) rfl (fun _ => rfl) rfl 0 rfl rfl rfl rfl hl.1 rfl (Nat.le_of_ble_eq_true rfl) dX4_turned_206 ⟨Nat.zero_le _, Nat.zero_le _⟩ (fun u9 H locs hw35 hP hD hS => ?_)
          obtain ⟨b31, b32, b33, b34⟩ := u9
          have hP : va_P D vwCl (kX4 cB cI mo mb ma b31 b32 b33 b34 w_sp w_pc w_on w_wt w_ht w_bg w_cn w_al w_cl w_ie w_ww w_th w_mm w_bs) H := hP
          have hD : va_D A (kX4 cB cI mo mb ma b31 b32 b33 b34 w_sp w_pc w_on w_wt w_ht w_bg w_cn w_al w_cl w_ie w_ww w_th w_mm w_bs) := hD
          have hf := hf.trans (kE4 hw35)
          refine lv_iload hx hb dX4_turned_209 (lv_at hl 0 rfl) ?_
          rw [← hQ]
          exact W.iret (v := x27) hx hb hr (fun t ht hW => ⟨⟨x27, (b31, b32, b33, b34), rfl, hf.symm, by rw [ht]; exact hP, va_K.moved hW.alike hK, hD⟩, hS.F ht⟩) hS.2.2 dX4_turned_211
        have hf := hTJ30
        refine lv_if_ne (tgt := 201) hx hb dX4_turned_194 (by decide) (fun c28 => ?_) (fun c28 => ?_)
        · have hf := hf.trans (kf_eq c28)
          refine lv_iconst (v := 0) hx hb dX4_turned_201 (by decide) ?_
          exact J30 false hf.symm H locs ls (lv_sub hl [0, 1, 2, 3, 4, 5] rfl) hP hD hS
        · have hf := hf.trans (kt_eq c28)
          refine lv_iconst (v := 1) hx hb dX4_turned_197 (by decide) ?_
          refine lv_goto (tgt := 202) hx hb dX4_turned_198 (by decide) ?_
          exact J30 true hf.symm H locs ls (lv_sub hl [0, 1, 2, 3, 4, 5] rfl) hP hD hS
      have hf := hTJ26
      by_cases c9 : a1 = (0 : Int32)
      · have hf := hf.trans (kt_eq c9)
        refine lv_tableIn (off := 44) (tgt := 92) hx hb dX4_turned_48 (by rw [c9]; decide) (by rw [c9]; decide) (by rw [c9]; decide) (by decide) ?_
        refine lv_iload_n hx hb dX4_turned_92 rfl (lv_at hl 4 rfl) ?_
        refine lv_iconst (v := 1) hx hb dX4_turned_93 (by decide) ?_
        refine lv_ishl hx hb dX4_turned_94 ?_
        refine lv_iload_n hx hb dX4_turned_95 rfl (lv_at hl 4 rfl) ?_
        refine lv_bipush (v := 7) hx hb dX4_turned_96 (by decide) ?_
        refine lv_ishr hx hb dX4_turned_98 ?_
        refine lv_ior hx hb dX4_turned_99 ?_
        refine lv_topi (fun x10 ex10 => ?_)
        have hf := hf.trans (kE1 ex10)
        refine lv_istore (lv' := [(4, .int x10), (5, .int (bI z7)), (3, .int (bI z2)), (0, .ref mo), (1, .int a1), (2, .int a2)]) hx hb dX4_turned_100 hl (by decide) rfl (fun ls hl => ?_)
        refine lv_goto (tgt := 183) hx hb dX4_turned_102 (by decide) ?_
        exact J26 x10 z7 hf.symm H locs ls (lv_sub hl [0, 1, 2, 3, 4, 5] rfl) hP hD hS
      · have hf := hf.trans (kf_eq c9)
        by_cases c11 : a1 = (1 : Int32)
        · have hf := hf.trans (kt_eq c11)
          refine lv_tableIn (off := 57) (tgt := 105) hx hb dX4_turned_48 (by rw [c11]; decide) (by rw [c11]; decide) (by rw [c11]; decide) (by decide) ?_
          refine lv_iload_n hx hb dX4_turned_105 rfl (lv_at hl 4 rfl) ?_
          refine lv_iconst (v := 1) hx hb dX4_turned_106 (by decide) ?_
          refine lv_ishr hx hb dX4_turned_107 ?_
          refine lv_iload_n hx hb dX4_turned_108 rfl (lv_at hl 4 rfl) ?_
          refine lv_bipush (v := 7) hx hb dX4_turned_109 (by decide) ?_
          refine lv_ishl hx hb dX4_turned_111 ?_
          refine lv_ior hx hb dX4_turned_112 ?_
          refine lv_topi (fun x12 ex12 => ?_)
          have hf := hf.trans (kE1 ex12)
          refine lv_istore (lv' := [(4, .int x12), (5, .int (bI z7)), (3, .int (bI z2)), (0, .ref mo), (1, .int a1), (2, .int a2)]) hx hb dX4_turned_113 hl (by decide) rfl (fun ls hl => ?_)
          refine lv_goto (tgt := 183) hx hb dX4_turned_115 (by decide) ?_
          exact J26 x12 z7 hf.symm H locs ls (lv_sub hl [0, 1, 2, 3, 4, 5] rfl) hP hD hS
        · have hf := hf.trans (kf_eq c11)
          by_cases c13 : a1 = (2 : Int32)
          · have hf := hf.trans (kt_eq c13)
            refine lv_tableIn (off := 70) (tgt := 118) hx hb dX4_turned_48 (by rw [c13]; decide) (by rw [c13]; decide) (by rw [c13]; decide) (by decide) ?_
            refine lv_iload_n hx hb dX4_turned_118 rfl (lv_at hl 4 rfl) ?_
            refine lv_iconst (v := 1) hx hb dX4_turned_119 (by decide) ?_
            refine lv_ishl hx hb dX4_turned_120 ?_
            refine lv_iload_n hx hb dX4_turned_121 rfl (lv_at hl 1 rfl) ?_
            refine lv_ior hx hb dX4_turned_122 ?_
            refine lv_topi (fun x14 ex14 => ?_)
            have hf := hf.trans (kE1 ex14)
            refine lv_istore (lv' := [(4, .int x14), (5, .int (bI z7)), (3, .int (bI z2)), (0, .ref mo), (1, .int a1), (2, .int a2)]) hx hb dX4_turned_123 hl (by decide) rfl (fun ls hl => ?_)
            refine lv_goto (tgt := 183) hx hb dX4_turned_125 (by decide) ?_
            exact J26 x14 z7 hf.symm H locs ls (lv_sub hl [0, 1, 2, 3, 4, 5] rfl) hP hD hS
          · have hf := hf.trans (kf_eq c13)
            by_cases c15 : a1 = (3 : Int32)
            · have hf := hf.trans (kt_eq c15)
              refine lv_tableIn (off := 80) (tgt := 128) hx hb dX4_turned_48 (by rw [c15]; decide) (by rw [c15]; decide) (by rw [c15]; decide) (by decide) ?_
              refine lv_iload_n hx hb dX4_turned_128 rfl (lv_at hl 4 rfl) ?_
              refine lv_iconst (v := 1) hx hb dX4_turned_129 (by decide) ?_
              refine lv_ishr hx hb dX4_turned_130 ?_
              refine lv_iload_n hx hb dX4_turned_131 rfl (lv_at hl 1 rfl) ?_
              refine lv_bipush (v := 7) hx hb dX4_turned_132 (by decide) ?_
              refine lv_ishl hx hb dX4_turned_134 ?_
              refine lv_ior hx hb dX4_turned_135 ?_
              refine lv_topi (fun x16 ex16 => ?_)
              have hf := hf.trans (kE1 ex16)
              refine lv_istore (lv' := [(4, .int x16), (5, .int (bI z7)), (3, .int (bI z2)), (0, .ref mo), (1, .int a1), (2, .int a2)]) hx hb dX4_turned_136 hl (by decide) rfl (fun ls hl => ?_)
              refine lv_goto (tgt := 183) hx hb dX4_turned_138 (by decide) ?_
              exact J26 x16 z7 hf.symm H locs ls (lv_sub hl [0, 1, 2, 3, 4, 5] rfl) hP hD hS
            · have hf := hf.trans (kf_eq c15)
              by_cases c17 : a1 = (4 : Int32)
              · have hf := hf.trans (kt_eq c17)
                refine lv_tableIn (off := 93) (tgt := 141) hx hb dX4_turned_48 (by rw [c17]; decide) (by rw [c17]; decide) (by rw [c17]; decide) (by decide) ?_
                refine lv_iload_n hx hb dX4_turned_141 rfl (lv_at hl 4 rfl) ?_
                refine lv_iconst (v := 1) hx hb dX4_turned_142 (by decide) ?_
                refine lv_ishl hx hb dX4_turned_143 ?_
                refine lv_topi (fun x18 ex18 => ?_)
                have hf := hf.trans (kE1 ex18)
                refine lv_istore (lv' := [(4, .int x18), (5, .int (bI z7)), (3, .int (bI z2)), (0, .ref mo), (1, .int a1), (2, .int a2)]) hx hb dX4_turned_144 hl (by decide) rfl (fun ls hl => ?_)
                refine lv_goto (tgt := 183) hx hb dX4_turned_146 (by decide) ?_
                exact J26 x18 z7 hf.symm H locs ls (lv_sub hl [0, 1, 2, 3, 4, 5] rfl) hP hD hS
              · have hf := hf.trans (kf_eq c17)
                by_cases c19 : a1 = (5 : Int32)
                · have hf := hf.trans (kt_eq c19)
                  refine lv_tableIn (off := 101) (tgt := 149) hx hb dX4_turned_48 (by rw [c19]; decide) (by rw [c19]; decide) (by rw [c19]; decide) (by decide) ?_
                  refine lv_iload_n hx hb dX4_turned_149 rfl (lv_at hl 4 rfl) ?_
                  refine lv_iconst (v := 1) hx hb dX4_turned_150 (by decide) ?_
                  refine lv_ishr hx hb dX4_turned_151 ?_
                  refine lv_iload_n hx hb dX4_turned_152 rfl (lv_at hl 4 rfl) ?_
                  refine lv_sipush (v := 128) hx hb dX4_turned_153 (by decide) ?_
                  refine lv_iand hx hb dX4_turned_156 ?_
                  refine lv_ior hx hb dX4_turned_157 ?_
                  refine lv_topi (fun x20 ex20 => ?_)
                  have hf := hf.trans (kE1 ex20)
                  refine lv_istore (lv' := [(4, .int x20), (5, .int (bI z7)), (3, .int (bI z2)), (0, .ref mo), (1, .int a1), (2, .int a2)]) hx hb dX4_turned_158 hl (by decide) rfl (fun ls hl => ?_)
                  refine lv_goto (tgt := 183) hx hb dX4_turned_160 (by decide) ?_
                  exact J26 x20 z7 hf.symm H locs ls (lv_sub hl [0, 1, 2, 3, 4, 5] rfl) hP hD hS
                · have hf := hf.trans (kf_eq c19)
                  by_cases c21 : a1 = (6 : Int32)
                  · have hf := hf.trans (kt_eq c21)
                    refine lv_tableIn (off := 115) (tgt := 163) hx hb dX4_turned_48 (by rw [c21]; decide) (by rw [c21]; decide) (by rw [c21]; decide) (by decide) ?_
                    refine lv_iload_n hx hb dX4_turned_163 rfl (lv_at hl 4 rfl) ?_
                    refine lv_iconst (v := 4) hx hb dX4_turned_164 (by decide) ?_
                    refine lv_ishl hx hb dX4_turned_165 ?_
                    refine lv_iload_n hx hb dX4_turned_166 rfl (lv_at hl 4 rfl) ?_
                    refine lv_iconst (v := 4) hx hb dX4_turned_167 (by decide) ?_
                    refine lv_ishr hx hb dX4_turned_168 ?_
                    refine lv_ior hx hb dX4_turned_169 ?_
                    refine lv_topi (fun x22 ex22 => ?_)
                    have hf := hf.trans (kE1 ex22)
                    refine lv_istore (lv' := [(4, .int x22), (5, .int (bI z7)), (3, .int (bI z2)), (0, .ref mo), (1, .int a1), (2, .int a2)]) hx hb dX4_turned_170 hl (by decide) rfl (fun ls hl => ?_)
                    refine lv_iconst (v := 0) hx hb dX4_turned_172 (by decide) ?_
                    refine lv_istore (lv' := [(5, .int (0 : Int32)), (4, .int x22), (3, .int (bI z2)), (0, .ref mo), (1, .int a1), (2, .int a2)]) hx hb dX4_turned_173 hl (by decide) rfl (fun ls hl => ?_)
                    refine lv_goto (tgt := 183) hx hb dX4_turned_175 (by decide) ?_
                    exact J26 x22 false hf.symm H locs ls (lv_sub hl [1, 0, 2, 3, 4, 5] rfl) hP hD hS
                  · have hf := hf.trans (kf_eq c21)
                    refine lv_tableOut (tgt := 178) hx hb dX4_turned_48 (by have n0 := lv_neT c9 (a := 0) rfl; have n1 := lv_neT c11 (a := 1) rfl; have n2 := lv_neT c13 (a := 2) rfl; have n3 := lv_neT c15 (a := 3) rfl; have n4 := lv_neT c17 (a := 4) rfl; have n5 := lv_neT c19 (a := 5) rfl; have n6 := lv_neT c21 (a := 6) rfl; omega) (by decide) ?_
                    refine lv_iload_n hx hb dX4_turned_178 rfl (lv_at hl 4 rfl) ?_
                    refine lv_iconst (v := 1) hx hb dX4_turned_179 (by decide) ?_
                    refine lv_ishr hx hb dX4_turned_180 ?_
                    refine lv_topi (fun x23 ex23 => ?_)
                    have hf := hf.trans (kE1 ex23)
                    refine lv_istore (lv' := [(4, .int x23), (5, .int (bI z7)), (3, .int (bI z2)), (0, .ref mo), (1, .int a1), (2, .int a2)]) hx hb dX4_turned_181 hl (by decide) rfl (fun ls hl => ?_)
                    exact J26 x23 z7 hf.symm H locs ls (lv_sub hl [0, 1, 2, 3, 4, 5] rfl) hP hD hS
    have hf := hTJ8
    refine lv_if_ne (tgt := 33) hx hb dX4_turned_16 (by decide) (fun c4 => ?_) (fun c4 => ?_)
    · have hf := hf.trans (kf_eq c4)
      refine lv_iload_n hx hb dX4_turned_33 rfl (lv_at hl 3 rfl) ?_
      refine lv_iconst (v := 2) hx hb dX4_turned_34 (by decide) ?_
      refine lv_irem hx hb dX4_turned_35 (by decide) ?_
      refine lv_iconst (v := 1) hx hb dX4_turned_36 (by decide) ?_
      refine lv_icmp_ne (tgt := 44) hx hb dX4_turned_37 (by decide) (fun c5 => ?_) (fun c5 => ?_)
      · have hf := hf.trans (kf_eq c5)
        refine lv_iconst (v := 0) hx hb dX4_turned_44 (by decide) ?_
        exact J8 false hf.symm H locs ls (lv_sub hl [0, 1, 2, 3] rfl) hP hD hS
      · have hf := hf.trans (kt_eq c5)
        refine lv_iconst (v := 1) hx hb dX4_turned_40 (by decide) ?_
        refine lv_goto (tgt := 45) hx hb dX4_turned_41 (by decide) ?_
        exact J8 true hf.symm H locs ls (lv_sub hl [0, 1, 2, 3] rfl) hP hD hS
    · have hf := hf.trans (kt_eq c4)
      refine lv_iload_n hx hb dX4_turned_19 rfl (lv_at hl 3 rfl) ?_
      refine lv_bipush (v := 127) hx hb dX4_turned_20 (by decide) ?_
      refine lv_icmp_le (tgt := 29) hx hb dX4_turned_22 (by decide) (fun c6 => ?_) (fun c6 => ?_)
      · have hf := hf.trans (kt_le c6)
        refine lv_iconst (v := 0) hx hb dX4_turned_29 (by decide) ?_
        refine lv_goto (tgt := 45) hx hb dX4_turned_30 (by decide) ?_
        exact J8 false hf.symm H locs ls (lv_sub hl [0, 1, 2, 3] rfl) hP hD hS
      · have hf := hf.trans (kf_le c6)
        refine lv_iconst (v := 1) hx hb dX4_turned_25 (by decide) ?_
        refine lv_goto (tgt := 45) hx hb dX4_turned_26 (by decide) ?_
        exact J8 true hf.symm H locs ls (lv_sub hl [0, 1, 2, 3] rfl) hP hD hS
  have hf := hTJ3
  refine lv_if_eq (tgt := 11) hx hb dX4_turned_4 (by decide) (fun c1 => ?_) (fun c1 => ?_)
  · have hf := hf.trans (kt_eq c1)
    refine lv_iconst (v := 0) hx hb dX4_turned_11 (by decide) ?_
    exact J3 false hf.symm H locs ls (lv_sub hl [0, 1, 2] rfl) hP hD hS
  · have hf := hf.trans (kf_eq c1)
    refine lv_iconst (v := 1) hx hb dX4_turned_7 (by decide) ?_
    refine lv_goto (tgt := 12) hx hb dX4_turned_8 (by decide) ?_
    exact J3 true hf.symm H locs ls (lv_sub hl [0, 1, 2] rfl) hP hD hS
def fX4_adjusts (w_zf : Bool) (w_nf : Bool) (w_hf : Bool) (w_cf : Bool) (w_bs : Nat → Int32)  : Bool × Bool × Bool × Bool × (Nat → Int32) := (kU1 ((w_bs (7 : Int32).toNatClampNeg)) (fun (x1 : Int32) => (kU1 (((kIf (kEq (bI w_hf) (0 : Int32)) (kIf (kEq (bI w_nf) (0 : Int32)) (kIf (kLe (x1 - x1 / (16 : Int32) * (16 : Int32)) (9 : Int32)) (0 : Int32) (kU1 ((0 : Int32) + (6 : Int32)) (fun (x6 : Int32) => x6))) (0 : Int32)) (kU1 ((0 : Int32) + (6 : Int32)) (fun (x3 : Int32) => x3))) : Int32)) (fun (x7 : Int32) => (kU2 (((kIf (kEq (bI w_cf) (0 : Int32)) (kIf (kEq (bI w_nf) (0 : Int32)) (kIf (kLe x1 (153 : Int32)) (w_cf, x7) (kU1 (x7 + (96 : Int32)) (fun (x13 : Int32) => (true, x13)))) (w_cf, x7)) (kU1 (x7 + (96 : Int32)) (fun (x10 : Int32) => (true, x10)))) : Bool × Int32)) (fun (z14 : Bool) (x15 : Int32) => (kU1 (((kIf (kEq (bI w_nf) (0 : Int32)) (x1 + x15) (x1 - x15)) : Int32)) (fun (x18 : Int32) => (kU1 ((x18 &&& (255 : Int32))) (fun (x20 : Int32) => (kU1 (upd w_bs (7 : Int32).toNatClampNeg x20) (fun (f21 : Nat → Int32) => (kU1 (((kIf (kEq x20 (0 : Int32)) true false) : Bool)) (fun (z23 : Bool) => (kU1 (((kIf (kEq (bI w_nf) (0 : Int32)) z14 w_cf) : Bool)) (fun (z26 : Bool) => (kU4 (fX4_flagsAre w_zf w_nf w_hf w_cf z23 w_nf false z26) (fun (b28 : Bool) (b29 : Bool) (b30 : Bool) (b31 : Bool) => (b28, b29, b30, b31, f21)))))))))))))))))))
def rmX4_adjusts : Room := { frames := 1, cells := 0, slots := 0, locals := 24 }
def wwX4_adjusts : List Cond := Cond.code yX4_adjusts cX4_adjusts 4 none :: wsL_law
theorem hdX4_adjusts : yX4_adjusts.cls = RX4 ∧ yX4_adjusts.cls ≠ "java/lang/invoke/MethodHandle" ∧ yX4_adjusts.cls ≠ "java/lang/invoke/VarHandle" ∧ (parseMethodDescriptor yX4_adjusts.desc).map (fun d => d.parameters.length) = some 0 := by decide +kernel
set_option maxHeartbeats 4000000 in
set_option maxRecDepth 100000 in
theorem c_X4_adjusts (l : Launch) (D : va_G) (cB : ClassId) (cI : ClassId) (mo mb ma sz : Nat) (w_zf : Bool) (w_nf : Bool) (w_hf : Bool) (w_cf : Bool) (w_sp : Int32) (w_pc : Int32) (w_on : Bool) (w_wt : Bool) (w_ht : Bool) (w_bg : Bool) (w_cn : Int32) (w_al : Int32) (w_cl : Int32) (w_ie : Bool) (w_ww : Bool) (w_th : Int32) (w_mm : Nat → Int32) (w_bs : Nat → Int32)   : Met l yX4_adjusts wwX4_adjusts rmX4_adjusts (va_Pc [.ref mo] (kp D (kX4 cB cI mo mb ma w_zf w_nf w_hf w_cf w_sp w_pc w_on w_wt w_ht w_bg w_cn w_al w_cl w_ie w_ww w_th w_mm w_bs) [(cB, .byte), (cI, .int)] sz)) (va_Qv (fun (u9 : Bool × Bool × Bool × Bool × (Nat → Int32)) => u9 = fX4_adjusts w_zf w_nf w_hf w_cf w_bs) (fun u9 t => kq D (kX4 cB cI mo mb ma (u9.1) (u9.2.1) (u9.2.2.1) (u9.2.2.2.1) w_sp w_pc w_on w_wt w_ht w_bg w_cn w_al w_cl w_ie w_ww w_th w_mm (u9.2.2.2.2)) [(cB, .byte), (cI, .int)] (va_A (kX4 cB cI mo mb ma w_zf w_nf w_hf w_cf w_sp w_pc w_on w_wt w_ht w_bg w_cn w_al w_cl w_ie w_ww w_th w_mm w_bs) sz) t) (va_A (kX4 cB cI mo mb ma w_zf w_nf w_hf w_cf w_sp w_pc w_on w_wt w_ht w_bg w_cn w_al w_cl w_ie w_ww w_th w_mm w_bs) sz)) 0 0 (va_A (kX4 cB cI mo mb ma w_zf w_nf w_hf w_cf w_sp w_pc w_on w_wt w_ht w_bg w_cn w_al w_cl w_ie w_ww w_th w_mm w_bs) sz) := by
  refine Met.ofW (cc := cX4_adjusts) (maxL := 4) (ret := none) (by decide) rfl ?_
  intro p e s m args below meth c s₁ B hml hv
  obtain ⟨rfl, hsz, hP, hK, hD0, hT⟩ := hv
  have hx := B.exec
  have hb := B.bytes
  have hr := B.returns
  have hts := atoms_spec (ws := wwX4_adjusts) B.pre
  have hws : ∀ w ∈ wsL_law, w.before _ s = true := fun w h => hts w (List.mem_cons_of_mem _ h)
  have hown : s.vm.findClass RX4 = some m.cls := findClass_of_methodNamed B.named
  have hlocks := B.notSynchronized
  subst hsz
  have hD := hD0.self (sz := s.heap.size)
  generalize hAe : va_A (kX4 cB cI mo mb ma w_zf w_nf w_hf w_cf w_sp w_pc w_on w_wt w_ht w_bg w_cn w_al w_cl w_ie w_ww w_th w_mm w_bs) s.heap.size = A at hD hT ⊢
  have hA : ∀ q : Nat, s.heap.size ≤ q → A q := fun q h => by rw [← hAe]; exact Or.inr h
  have hS : va_S A s.heap s.heap [] := va_S.rf
  have hl := lv_entry ([.ref mo]) (n := 4) (Nat.le_of_ble_eq_true rfl)
  rw [lg_entry_eq]
  generalize (lg_sl ([.ref mo]) ++ List.replicate (4 - (lg_sl ([.ref mo])).length) Slot.unset).toArray = ls at hl ⊢
  have hl : lv_has ls 4 [(0, .ref mo)] := hl
  generalize hQ : MQ _ _ _ _ _ _ _ = Q
  obtain ⟨H, hHe⟩ : ∃ H : Heap, H = s.heap := ⟨_, rfl⟩
  obtain ⟨locs, hle⟩ : ∃ L : List Loc, L = [] := ⟨_, rfl⟩
  have hP : va_P D vwCl (kX4 cB cI mo mb ma w_zf w_nf w_hf w_cf w_sp w_pc w_on w_wt w_ht w_bg w_cn w_al w_cl w_ie w_ww w_th w_mm w_bs) H := by rw [hHe]; exact hP
  have hS : va_S A s.heap H locs := by rw [hHe, hle]; exact hS
  refine kw_start hHe.symm hle.symm ?_
  have hf : fX4_adjusts w_zf w_nf w_hf w_cf w_bs = fX4_adjusts w_zf w_nf w_hf w_cf w_bs := rfl
  refine lv_aload_n hx hb dX4_adjusts_0 rfl (lv_at hl 0 rfl) ?_
  refine va_get (D := D) (ci := 4) (v := .ref ma) (C := RX4) (T := TX4) (N := 18) hx hb hws inlX4 hown hK hP 0 rfl rfl 1 (by decide) (hws _ mw_45) (fun _ h9 => h9) rfl dX4_adjusts_1 ?_
  refine lv_bipush (v := 7) hx hb dX4_adjusts_4 (by decide) ?_
  refine va_iald hx hb hK hP 2 1 rfl rfl (by unfold vp_in; decide) dX4_adjusts_6 ?_
  refine lv_topi (fun x1 ex1 => ?_)
  have hf := hf.trans (kE1 ex1)
  refine lv_istore_n (lv' := [(1, .int x1), (0, .ref mo)]) hx hb dX4_adjusts_7 rfl hl (by decide) rfl (fun ls hl => ?_)
  refine lv_iconst (v := 0) hx hb dX4_adjusts_8 (by decide) ?_
  refine lv_istore_n (lv' := [(2, .int (0 : Int32)), (1, .int x1), (0, .ref mo)]) hx hb dX4_adjusts_9 rfl hl (by decide) rfl (fun ls hl => ?_)
  refine lv_aload_n hx hb dX4_adjusts_10 rfl (lv_at hl 2 rfl) ?_
  refine va_get (D := D) (ci := 4) (v := .int (bI w_cf)) (C := RX4) (T := TX4) (N := 18) hx hb hws inlX4 hown hK hP 0 rfl rfl 5 (by decide) (hws _ mw_431) (fun _ h9 => h9) rfl dX4_adjusts_11 ?_
  refine lv_istore_n (lv' := [(3, .int (bI w_cf)), (2, .int (0 : Int32)), (1, .int x1), (0, .ref mo)]) hx hb dX4_adjusts_14 rfl hl (by decide) rfl (fun ls hl => ?_)
  refine lv_aload_n hx hb dX4_adjusts_15 rfl (lv_at hl 3 rfl) ?_
  refine va_get (D := D) (ci := 4) (v := .int (bI w_hf)) (C := RX4) (T := TX4) (N := 18) hx hb hws inlX4 hown hK hP 0 rfl rfl 4 (by decide) (hws _ mw_453) (fun _ h9 => h9) rfl dX4_adjusts_16 ?_
  obtain ⟨TJ8, hTJ8⟩ : ∃ T9 : Int32, T9 = (kIf (kEq (bI w_hf) (0 : Int32)) (kIf (kEq (bI w_nf) (0 : Int32)) (kIf (kLe (x1 - x1 / (16 : Int32) * (16 : Int32)) (9 : Int32)) (0 : Int32) (kU1 ((0 : Int32) + (6 : Int32)) (fun (x6 : Int32) => x6))) (0 : Int32)) (kU1 ((0 : Int32) + (6 : Int32)) (fun (x3 : Int32) => x3))) := ⟨_, rfl⟩
  have J8 : ∀ (x7 : Int32), x7 = TJ8 → ∀ (H : Heap) (locs : List Loc) (ls : Array Slot), lv_has ls 4 [(3, .int (bI w_cf)), (2, .int x7), (1, .int x1), (0, .ref mo)] → va_P D vwCl (kX4 cB cI mo mb ma w_zf w_nf w_hf w_cf w_sp w_pc w_on w_wt w_ht w_bg w_cn w_al w_cl w_ie w_ww w_th w_mm w_bs) H → va_D A (kX4 cB cI mo mb ma w_zf w_nf w_hf w_cf w_sp w_pc w_on w_wt w_ht w_bg w_cn w_al w_cl w_ie w_ww w_th w_mm w_bs) → va_S A s.heap H locs → W p l e (headSpec wwX4_adjusts rmX4_adjusts).room s m ([.ref mo] : List Value).toArray below meth c H locs 0 0 Q (F0 m 41 ls []) := by
    intro x7 eJ8 H locs ls hl hP hD hS
    have hf := hf.trans (kE1 (eJ8.trans hTJ8))
    refine lv_aload_n hx hb dX4_adjusts_41 rfl (lv_at hl 3 rfl) ?_
    refine va_get (D := D) (ci := 4) (v := .int (bI w_cf)) (C := RX4) (T := TX4) (N := 18) hx hb hws inlX4 hown hK hP 0 rfl rfl 5 (by decide) (hws _ mw_431) (fun _ h9 => h9) rfl dX4_adjusts_42 ?_
    obtain ⟨TJ16, hTJ16⟩ : ∃ T9 : Bool × Int32, T9 = (kIf (kEq (bI w_cf) (0 : Int32)) (kIf (kEq (bI w_nf) (0 : Int32)) (kIf (kLe x1 (153 : Int32)) (w_cf, x7) (kU1 (x7 + (96 : Int32)) (fun (x13 : Int32) => (true, x13)))) (w_cf, x7)) (kU1 (x7 + (96 : Int32)) (fun (x10 : Int32) => (true, x10)))) := ⟨_, rfl⟩
    have J16 : ∀ (z14 : Bool) (x15 : Int32), (z14, x15) = TJ16 → ∀ (H : Heap) (locs : List Loc) (ls : Array Slot), lv_has ls 4 [(3, .int (bI z14)), (2, .int x15), (1, .int x1), (0, .ref mo)] → va_P D vwCl (kX4 cB cI mo mb ma w_zf w_nf w_hf w_cf w_sp w_pc w_on w_wt w_ht w_bg w_cn w_al w_cl w_ie w_ww w_th w_mm w_bs) H → va_D A (kX4 cB cI mo mb ma w_zf w_nf w_hf w_cf w_sp w_pc w_on w_wt w_ht w_bg w_cn w_al w_cl w_ie w_ww w_th w_mm w_bs) → va_S A s.heap H locs → W p l e (headSpec wwX4_adjusts rmX4_adjusts).room s m ([.ref mo] : List Value).toArray below meth c H locs 0 0 Q (F0 m 67 ls []) := by
      intro z14 x15 eJ16 H locs ls hl hP hD hS
      have hf := hf.trans (kE2 (eJ16.trans hTJ16))
      refine lv_aload_n hx hb dX4_adjusts_67 rfl (lv_at hl 3 rfl) ?_
      refine va_get (D := D) (ci := 4) (v := .int (bI w_nf)) (C := RX4) (T := TX4) (N := 18) hx hb hws inlX4 hown hK hP 0 rfl rfl 3 (by decide) (hws _ mw_452) (fun _ h9 => h9) rfl dX4_adjusts_68 ?_
      obtain ⟨TJ19, hTJ19⟩ : ∃ T9 : Int32, T9 = (kIf (kEq (bI w_nf) (0 : Int32)) (x1 + x15) (x1 - x15)) := ⟨_, rfl⟩
      have J19 : ∀ (x18 : Int32), x18 = TJ19 → ∀ (H : Heap) (locs : List Loc) (ls : Array Slot), lv_has ls 4 [(3, .int (bI z14)), (2, .int x15), (1, .int x1), (0, .ref mo)] → va_P D vwCl (kX4 cB cI mo mb ma w_zf w_nf w_hf w_cf w_sp w_pc w_on w_wt w_ht w_bg w_cn w_al w_cl w_ie w_ww w_th w_mm w_bs) H → va_D A (kX4 cB cI mo mb ma w_zf w_nf w_hf w_cf w_sp w_pc w_on w_wt w_ht w_bg w_cn w_al w_cl w_ie w_ww w_th w_mm w_bs) → va_S A s.heap H locs → W p l e (headSpec wwX4_adjusts rmX4_adjusts).room s m ([.ref mo] : List Value).toArray below meth c H locs 0 0 Q (F0 m 83 ls [.int x18]) := by
        intro x18 eJ19 H locs ls hl hP hD hS
        have hf := hf.trans (kE1 (eJ19.trans hTJ19))
        refine lv_sipush (v := 255) hx hb dX4_adjusts_83 (by decide) ?_
        refine lv_iand hx hb dX4_adjusts_86 ?_
        refine lv_topi (fun x20 ex20 => ?_)
        have hf := hf.trans (kE1 ex20)
        refine lv_istore_n (lv' := [(1, .int x20), (3, .int (bI z14)), (2, .int x15), (0, .ref mo)]) hx hb dX4_adjusts_87 rfl hl (by decide) rfl (fun ls hl => ?_)
        refine lv_aload_n hx hb dX4_adjusts_88 rfl (lv_at hl 3 rfl) ?_
        refine va_get (D := D) (ci := 4) (v := .ref ma) (C := RX4) (T := TX4) (N := 18) hx hb hws inlX4 hown hK hP 0 rfl rfl 1 (by decide) (hws _ mw_45) (fun _ h9 => h9) rfl dX4_adjusts_89 ?_
        refine lv_bipush (v := 7) hx hb dX4_adjusts_92 (by decide) ?_
        refine lv_iload_n hx hb dX4_adjusts_94 rfl (lv_at hl 0 rfl) ?_
        refine va_iast hx hb hK hP hD hS 2 1 rfl rfl (by unfold vp_in; decide) dX4_adjusts_95 (fun H locs hP hD hS => ?_)
        obtain ⟨f21, ef21⟩ : ∃ f9 : Nat → Int32, f9 = upd w_bs (7 : Int32).toNatClampNeg x20 := ⟨_, rfl⟩
        have hf := hf.trans (kE1 ef21)
        have hP : va_P D vwCl (kX4 cB cI mo mb ma w_zf w_nf w_hf w_cf w_sp w_pc w_on w_wt w_ht w_bg w_cn w_al w_cl w_ie w_ww w_th w_mm f21) H := by rw [ef21]; exact hP
        have hD : va_D A (kX4 cB cI mo mb ma w_zf w_nf w_hf w_cf w_sp w_pc w_on w_wt w_ht w_bg w_cn w_al w_cl w_ie w_ww w_th w_mm f21) := by rw [ef21]; exact hD
        refine lv_aload_n hx hb dX4_adjusts_96 rfl (lv_at hl 3 rfl) ?_
        refine lv_iload_n hx hb dX4_adjusts_97 rfl (lv_at hl 0 rfl) ?_
        obtain ⟨TJ24, hTJ24⟩ : ∃ T9 : Bool, T9 = (kIf (kEq x20 (0 : Int32)) true false) := ⟨_, rfl⟩
        have J24 : ∀ (z23 : Bool), z23 = TJ24 → ∀ (H : Heap) (locs : List Loc) (ls : Array Slot), lv_has ls 4 [(1, .int x20), (3, .int (bI z14)), (2, .int x15), (0, .ref mo)] → va_P D vwCl (kX4 cB cI mo mb ma w_zf w_nf w_hf w_cf w_sp w_pc w_on w_wt w_ht w_bg w_cn w_al w_cl w_ie w_ww w_th w_mm f21) H → va_D A (kX4 cB cI mo mb ma w_zf w_nf w_hf w_cf w_sp w_pc w_on w_wt w_ht w_bg w_cn w_al w_cl w_ie w_ww w_th w_mm f21) → va_S A s.heap H locs → W p l e (headSpec wwX4_adjusts rmX4_adjusts).room s m ([.ref mo] : List Value).toArray below meth c H locs 0 0 Q (F0 m 106 ls [.int (bI z23), .ref mo]) := by
          intro z23 eJ24 H locs ls hl hP hD hS
          have hf := hf.trans (kE1 (eJ24.trans hTJ24))
          refine lv_aload_n hx hb dX4_adjusts_106 rfl (lv_at hl 3 rfl) ?_
          refine va_get (D := D) (ci := 4) (v := .int (bI w_nf)) (C := RX4) (T := TX4) (N := 18) hx hb hws inlX4 hown hK hP 0 rfl rfl 3 (by decide) (hws _ mw_452) (fun _ h9 => h9) rfl dX4_adjusts_107 ?_
          refine lv_iconst (v := 0) hx hb dX4_adjusts_110 (by decide) ?_
          refine lv_aload_n hx hb dX4_adjusts_111 rfl (lv_at hl 3 rfl) ?_
          refine va_get (D := D) (ci := 4) (v := .int (bI w_nf)) (C := RX4) (T := TX4) (N := 18) hx hb hws inlX4 hown hK hP 0 rfl rfl 3 (by decide) (hws _ mw_452) (fun _ h9 => h9) rfl dX4_adjusts_112 ?_
          obtain ⟨TJ27, hTJ27⟩ : ∃ T9 : Bool, T9 = (kIf (kEq (bI w_nf) (0 : Int32)) z14 w_cf) := ⟨_, rfl⟩
          have J27 : ∀ (z26 : Bool), z26 = TJ27 → ∀ (H : Heap) (locs : List Loc) (ls : Array Slot), lv_has ls 4 [(1, .int x20), (3, .int (bI z14)), (2, .int x15), (0, .ref mo)] → va_P D vwCl (kX4 cB cI mo mb ma w_zf w_nf w_hf w_cf w_sp w_pc w_on w_wt w_ht w_bg w_cn w_al w_cl w_ie w_ww w_th w_mm f21) H → va_D A (kX4 cB cI mo mb ma w_zf w_nf w_hf w_cf w_sp w_pc w_on w_wt w_ht w_bg w_cn w_al w_cl w_ie w_ww w_th w_mm f21) → va_S A s.heap H locs → W p l e (headSpec wwX4_adjusts rmX4_adjusts).room s m ([.ref mo] : List Value).toArray below meth c H locs 0 0 Q (F0 m 126 ls [.int (bI z26), .int (0 : Int32), .int (bI w_nf), .int (bI z23), .ref mo]) := by
            intro z26 eJ27 H locs ls hl hP hD hS
            have hf := hf.trans (kE1 (eJ27.trans hTJ27))
            refine kc_Vv (wr := []) (As := [.int (bI z23), .int (bI w_nf), .int (bI false), .int (bI z26)]) (rest := []) (fun u9 => (kX4 cB cI mo mb ma (u9.1) (u9.2.1) (u9.2.2.1) (u9.2.2.2) w_sp w_pc w_on w_wt w_ht w_bg w_cn w_al w_cl w_ie w_ww w_th w_mm f21)) ⟨hx, hb, hml, hown, hws⟩ hK hP hD hS hA hT (c_X4_flagsAre l D cB cI mo mb ma H.size w_zf w_nf w_hf w_cf w_sp w_pc w_on w_wt w_ht w_bg w_cn w_al w_cl w_ie w_ww w_th w_mm f21 z23 w_nf false z26) (cwV 4 hws (gw_V mw_448 mw_449 mw_450 mw_5 mw_451) rfl rfl rfl hdX4_flagsAre ⟨Nat.le_of_ble_eq_true rfl, Nat.le_of_ble_eq_true rfl⟩) [0, 1, 2] [] [0, 1] [0, 1, 2] rfl rfl rfl rfl (by decide) rfl (fun _ => rfl) rfl 0 rfl rfl rfl rfl hl.1 rfl (Nat.le_of_ble_eq_true rfl) dX4_adjusts_126 ⟨Nat.zero_le _, Nat.zero_le _⟩ (fun u9 H locs hw32 hP hD hS => ?_)
            obtain ⟨b28, b29, b30, b31⟩ := u9
            have hP : va_P D vwCl (kX4 cB cI mo mb ma b28 b29 b30 b31 w_sp w_pc w_on w_wt w_ht w_bg w_cn w_al w_cl w_ie w_ww w_th w_mm f21) H := hP
            have hD : va_D A (kX4 cB cI mo mb ma b28 b29 b30 b31 w_sp w_pc w_on w_wt w_ht w_bg w_cn w_al w_cl w_ie w_ww w_th w_mm f21) := hD
            have hf := hf.trans (kE4 hw32)
            rw [← hQ]
            exact W.vret hx hb hr (fun t ht hW => ⟨⟨(b28, b29, b30, b31, f21), rfl, hf.symm, by rw [ht]; exact hP, va_K.moved hW.alike hK, hD⟩, hS.F ht⟩) hS.2.2 dX4_adjusts_129
          have hf := hTJ27
          refine lv_if_eq (tgt := 125) hx hb dX4_adjusts_115 (by decide) (fun c25 => ?_) (fun c25 => ?_)
          · have hf := hf.trans (kt_eq c25)
            refine lv_iload_n hx hb dX4_adjusts_125 rfl (lv_at hl 1 rfl) ?_
            exact J27 z14 hf.symm H locs ls (lv_sub hl [0, 1, 2, 3] rfl) hP hD hS
          · have hf := hf.trans (kf_eq c25)
            refine lv_aload_n hx hb dX4_adjusts_118 rfl (lv_at hl 3 rfl) ?_
            refine va_get (D := D) (ci := 4) (v := .int (bI w_cf)) (C := RX4) (T := TX4) (N := 18) hx hb hws inlX4 hown hK hP 0 rfl rfl 5 (by decide) (hws _ mw_431) (fun _ h9 => h9) rfl dX4_adjusts_119 ?_
            refine lv_goto (tgt := 126) hx hb dX4_adjusts_122 (by decide) ?_
            exact J27 w_cf hf.symm H locs ls (lv_sub hl [0, 1, 2, 3] rfl) hP hD hS
        have hf := hTJ24
        refine lv_if_ne (tgt := 105) hx hb dX4_adjusts_98 (by decide) (fun c22 => ?_) (fun c22 => ?_)
        · have hf := hf.trans (kf_eq c22)
          refine lv_iconst (v := 0) hx hb dX4_adjusts_105 (by decide) ?_
          exact J24 false hf.symm H locs ls (lv_sub hl [0, 1, 2, 3] rfl) hP hD hS
        · have hf := hf.trans (kt_eq c22)
          refine lv_iconst (v := 1) hx hb dX4_adjusts_101 (by decide) ?_
          refine lv_goto (tgt := 106) hx hb dX4_adjusts_102 (by decide) ?_
          exact J24 true hf.symm H locs ls (lv_sub hl [0, 1, 2, 3] rfl) hP hD hS
      have hf := hTJ19
      refine lv_if_eq (tgt := 80) hx hb dX4_adjusts_71 (by decide) (fun c17 => ?_) (fun c17 => ?_)
      · have hf := hf.trans (kt_eq c17)
        refine lv_iload_n hx hb dX4_adjusts_80 rfl (lv_at hl 2 rfl) ?_
        refine lv_iload_n hx hb dX4_adjusts_81 rfl (lv_at hl 1 rfl) ?_
        refine lv_iadd hx hb dX4_adjusts_82 ?_
        exact J19 (x1 + x15) hf.symm H locs ls (lv_sub hl [0, 1, 2, 3] rfl) hP hD hS
      · have hf := hf.trans (kf_eq c17)
        refine lv_iload_n hx hb dX4_adjusts_74 rfl (lv_at hl 2 rfl) ?_
        refine lv_iload_n hx hb dX4_adjusts_75 rfl (lv_at hl 1 rfl) ?_
        refine lv_isub hx hb dX4_adjusts_76 ?_
        refine lv_goto (tgt := 83) hx hb dX4_adjusts_77 (by decide) ?_
        exact J19 (x1 - x15) hf.symm H locs ls (lv_sub hl [0, 1, 2, 3] rfl) hP hD hS
    have hf := hTJ16
    refine lv_if_ne (tgt := 62) hx hb dX4_adjusts_45 (by decide) (fun c9 => ?_) (fun c9 => ?_)
    · have hf := hf.trans (kf_eq c9)
      obtain ⟨x10, ex10⟩ : ∃ y9 : Int32, y9 = x7 + (96 : Int32) := ⟨_, rfl⟩
      have hf := hf.trans (kE1 ex10)
      refine lv_iinc (v := x10) (lv' := [(2, .int x10), (3, .int (bI w_cf)), (1, .int x1), (0, .ref mo)]) hx hb dX4_adjusts_62 hl (k := 1) rfl (by rw [ex10]; rfl) (by decide) rfl (fun ls hl => ?_)
      refine lv_iconst (v := 1) hx hb dX4_adjusts_65 (by decide) ?_
      refine lv_istore_n (lv' := [(3, .int (1 : Int32)), (2, .int x10), (1, .int x1), (0, .ref mo)]) hx hb dX4_adjusts_66 rfl hl (by decide) rfl (fun ls hl => ?_)
      exact J16 true x10 hf.symm H locs ls (lv_sub hl [0, 1, 2, 3] rfl) hP hD hS
    · have hf := hf.trans (kt_eq c9)
      refine lv_aload_n hx hb dX4_adjusts_48 rfl (lv_at hl 3 rfl) ?_
      refine va_get (D := D) (ci := 4) (v := .int (bI w_nf)) (C := RX4) (T := TX4) (N := 18) hx hb hws inlX4 hown hK hP 0 rfl rfl 3 (by decide) (hws _ mw_452) (fun _ h9 => h9) rfl dX4_adjusts_49 ?_
      refine lv_if_ne (tgt := 67) hx hb dX4_adjusts_52 (by decide) (fun c11 => ?_) (fun c11 => ?_)
      · have hf := hf.trans (kf_eq c11)
        exact J16 w_cf x7 hf.symm H locs ls (lv_sub hl [0, 1, 2, 3] rfl) hP hD hS
      · have hf := hf.trans (kt_eq c11)
        refine lv_iload_n hx hb dX4_adjusts_55 rfl (lv_at hl 2 rfl) ?_
        refine lv_sipush (v := 153) hx hb dX4_adjusts_56 (by decide) ?_
        refine lv_icmp_le (tgt := 67) hx hb dX4_adjusts_59 (by decide) (fun c12 => ?_) (fun c12 => ?_)
        · have hf := hf.trans (kt_le c12)
          exact J16 w_cf x7 hf.symm H locs ls (lv_sub hl [0, 1, 2, 3] rfl) hP hD hS
        · have hf := hf.trans (kf_le c12)
          obtain ⟨x13, ex13⟩ : ∃ y9 : Int32, y9 = x7 + (96 : Int32) := ⟨_, rfl⟩
          have hf := hf.trans (kE1 ex13)
          refine lv_iinc (v := x13) (lv' := [(2, .int x13), (3, .int (bI w_cf)), (1, .int x1), (0, .ref mo)]) hx hb dX4_adjusts_62 hl (k := 1) rfl (by rw [ex13]; rfl) (by decide) rfl (fun ls hl => ?_)
          refine lv_iconst (v := 1) hx hb dX4_adjusts_65 (by decide) ?_
          refine lv_istore_n (lv' := [(3, .int (1 : Int32)), (2, .int x13), (1, .int x1), (0, .ref mo)]) hx hb dX4_adjusts_66 rfl hl (by decide) rfl (fun ls hl => ?_)
          exact J16 true x13 hf.symm H locs ls (lv_sub hl [0, 1, 2, 3] rfl) hP hD hS
  have hf := hTJ8
  refine lv_if_ne (tgt := 38) hx hb dX4_adjusts_19 (by decide) (fun c2 => ?_) (fun c2 => ?_)
  · have hf := hf.trans (kf_eq c2)
    obtain ⟨x3, ex3⟩ : ∃ y9 : Int32, y9 = (0 : Int32) + (6 : Int32) := ⟨_, rfl⟩
    have hf := hf.trans (kE1 ex3)
    refine lv_iinc (v := x3) (lv' := [(2, .int x3), (3, .int (bI w_cf)), (1, .int x1), (0, .ref mo)]) hx hb dX4_adjusts_38 hl (k := 1) rfl (by rw [ex3]; rfl) (by decide) rfl (fun ls hl => ?_)
    exact J8 x3 hf.symm H locs ls (lv_sub hl [1, 0, 2, 3] rfl) hP hD hS
  · have hf := hf.trans (kt_eq c2)
    refine lv_aload_n hx hb dX4_adjusts_22 rfl (lv_at hl 3 rfl) ?_
    refine va_get (D := D) (ci := 4) (v := .int (bI w_nf)) (C := RX4) (T := TX4) (N := 18) hx hb hws inlX4 hown hK hP 0 rfl rfl 3 (by decide) (hws _ mw_452) (fun _ h9 => h9) rfl dX4_adjusts_23 ?_
    refine lv_if_ne (tgt := 41) hx hb dX4_adjusts_26 (by decide) (fun c4 => ?_) (fun c4 => ?_)
    · have hf := hf.trans (kf_eq c4)
      exact J8 (0 : Int32) hf.symm H locs ls (lv_sub hl [0, 1, 2, 3] rfl) hP hD hS
    · have hf := hf.trans (kt_eq c4)
      refine lv_iload_n hx hb dX4_adjusts_29 rfl (lv_at hl 2 rfl) ?_
      refine lv_bipush (v := 16) hx hb dX4_adjusts_30 (by decide) ?_
      refine lv_irem hx hb dX4_adjusts_32 (by decide) ?_
      refine lv_bipush (v := 9) hx hb dX4_adjusts_33 (by decide) ?_
      refine lv_icmp_le (tgt := 41) hx hb dX4_adjusts_35 (by decide) (fun c5 => ?_) (fun c5 => ?_)
      · have hf := hf.trans (kt_le c5)
        exact J8 (0 : Int32) hf.symm H locs ls (lv_sub hl [0, 1, 2, 3] rfl) hP hD hS
      · have hf := hf.trans (kf_le c5)
        obtain ⟨x6, ex6⟩ : ∃ y9 : Int32, y9 = (0 : Int32) + (6 : Int32) := ⟨_, rfl⟩
        have hf := hf.trans (kE1 ex6)
        refine lv_iinc (v := x6) (lv' := [(2, .int x6), (3, .int (bI w_cf)), (1, .int x1), (0, .ref mo)]) hx hb dX4_adjusts_38 hl (k := 1) rfl (by rw [ex6]; rfl) (by decide) rfl (fun ls hl => ?_)
        exact J8 x6 hf.symm H locs ls (lv_sub hl [1, 0, 2, 3] rfl) hP hD hS
def fX4_moved (w_zf : Bool) (w_nf : Bool) (w_hf : Bool) (w_cf : Bool) (w_sp : Int32) (a1 : Int32) : Int32 × Bool × Bool × Bool × Bool := (kU1 ((w_sp &&& (255 : Int32))) (fun (x1 : Int32) => (kU1 (((kIf (kLe ((x1 &&& (15 : Int32)) + (a1 &&& (15 : Int32))) (15 : Int32)) false true) : Bool)) (fun (z3 : Bool) => (kU1 (((kIf (kLe (x1 + a1) (255 : Int32)) false true) : Bool)) (fun (z6 : Bool) => (kU4 (fX4_flagsAre w_zf w_nf w_hf w_cf false false z3 z6) (fun (b8 : Bool) (b9 : Bool) (b10 : Bool) (b11 : Bool) => (((w_sp + a1.toInt8.toInt32) &&& (65535 : Int32)), b8, b9, b10, b11)))))))))
def rmX4_moved : Room := { frames := 1, cells := 0, slots := 0, locals := 24 }
def wwX4_moved : List Cond := Cond.code yX4_moved cX4_moved 3 (some .int) :: wsL_law
theorem hdX4_moved : yX4_moved.cls = RX4 ∧ yX4_moved.cls ≠ "java/lang/invoke/MethodHandle" ∧ yX4_moved.cls ≠ "java/lang/invoke/VarHandle" ∧ (parseMethodDescriptor yX4_moved.desc).map (fun d => d.parameters.length) = some 1 := by decide +kernel
set_option maxHeartbeats 4000000 in
set_option maxRecDepth 100000 in
theorem c_X4_moved (l : Launch) (D : va_G) (cB : ClassId) (cI : ClassId) (mo mb ma sz : Nat) (w_zf : Bool) (w_nf : Bool) (w_hf : Bool) (w_cf : Bool) (w_sp : Int32) (w_pc : Int32) (w_on : Bool) (w_wt : Bool) (w_ht : Bool) (w_bg : Bool) (w_cn : Int32) (w_al : Int32) (w_cl : Int32) (w_ie : Bool) (w_ww : Bool) (w_th : Int32) (w_mm : Nat → Int32) (w_bs : Nat → Int32) (a1 : Int32)  : Met l yX4_moved wwX4_moved rmX4_moved (va_Pc [.ref mo, .int a1] (kp D (kX4 cB cI mo mb ma w_zf w_nf w_hf w_cf w_sp w_pc w_on w_wt w_ht w_bg w_cn w_al w_cl w_ie w_ww w_th w_mm w_bs) [(cB, .byte), (cI, .int)] sz)) (va_Qi (fun (r : Int32) (u9 : Bool × Bool × Bool × Bool) => (r, u9) = fX4_moved w_zf w_nf w_hf w_cf w_sp a1) (fun u9 t => kq D (kX4 cB cI mo mb ma (u9.1) (u9.2.1) (u9.2.2.1) (u9.2.2.2) w_sp w_pc w_on w_wt w_ht w_bg w_cn w_al w_cl w_ie w_ww w_th w_mm w_bs) [(cB, .byte), (cI, .int)] (va_A (kX4 cB cI mo mb ma w_zf w_nf w_hf w_cf w_sp w_pc w_on w_wt w_ht w_bg w_cn w_al w_cl w_ie w_ww w_th w_mm w_bs) sz) t) (va_A (kX4 cB cI mo mb ma w_zf w_nf w_hf w_cf w_sp w_pc w_on w_wt w_ht w_bg w_cn w_al w_cl w_ie w_ww w_th w_mm w_bs) sz)) 0 0 (va_A (kX4 cB cI mo mb ma w_zf w_nf w_hf w_cf w_sp w_pc w_on w_wt w_ht w_bg w_cn w_al w_cl w_ie w_ww w_th w_mm w_bs) sz) := by
  refine Met.ofW (cc := cX4_moved) (maxL := 3) (ret := (some .int)) (by decide) rfl ?_
  intro p e s m args below meth c s₁ B hml hv
  obtain ⟨rfl, hsz, hP, hK, hD0, hT⟩ := hv
  have hx := B.exec
  have hb := B.bytes
  have hr := B.returns
  have hts := atoms_spec (ws := wwX4_moved) B.pre
  have hws : ∀ w ∈ wsL_law, w.before _ s = true := fun w h => hts w (List.mem_cons_of_mem _ h)
  have hown : s.vm.findClass RX4 = some m.cls := findClass_of_methodNamed B.named
  have hlocks := B.notSynchronized
  subst hsz
  have hD := hD0.self (sz := s.heap.size)
  generalize hAe : va_A (kX4 cB cI mo mb ma w_zf w_nf w_hf w_cf w_sp w_pc w_on w_wt w_ht w_bg w_cn w_al w_cl w_ie w_ww w_th w_mm w_bs) s.heap.size = A at hD hT ⊢
  have hA : ∀ q : Nat, s.heap.size ≤ q → A q := fun q h => by rw [← hAe]; exact Or.inr h
  have hS : va_S A s.heap s.heap [] := va_S.rf
  have hl := lv_entry ([.ref mo, .int a1]) (n := 3) (Nat.le_of_ble_eq_true rfl)
  rw [lg_entry_eq]
  generalize (lg_sl ([.ref mo, .int a1]) ++ List.replicate (3 - (lg_sl ([.ref mo, .int a1])).length) Slot.unset).toArray = ls at hl ⊢
  have hl : lv_has ls 3 [(0, .ref mo), (1, .int a1)] := hl
  generalize hQ : MQ _ _ _ _ _ _ _ = Q
  obtain ⟨H, hHe⟩ : ∃ H : Heap, H = s.heap := ⟨_, rfl⟩
  obtain ⟨locs, hle⟩ : ∃ L : List Loc, L = [] := ⟨_, rfl⟩
  have hP : va_P D vwCl (kX4 cB cI mo mb ma w_zf w_nf w_hf w_cf w_sp w_pc w_on w_wt w_ht w_bg w_cn w_al w_cl w_ie w_ww w_th w_mm w_bs) H := by rw [hHe]; exact hP
  have hS : va_S A s.heap H locs := by rw [hHe, hle]; exact hS
  refine kw_start hHe.symm hle.symm ?_
  have hf : fX4_moved w_zf w_nf w_hf w_cf w_sp a1 = fX4_moved w_zf w_nf w_hf w_cf w_sp a1 := rfl
  refine lv_aload_n hx hb dX4_moved_0 rfl (lv_at hl 0 rfl) ?_
  refine va_get (D := D) (ci := 4) (v := .int w_sp) (C := RX4) (T := TX4) (N := 18) hx hb hws inlX4 hown hK hP 0 rfl rfl 6 (by decide) (hws _ mw_382) (fun _ h9 => h9) rfl dX4_moved_1 ?_
  refine lv_sipush (v := 255) hx hb dX4_moved_4 (by decide) ?_
  refine lv_iand hx hb dX4_moved_7 ?_
  refine lv_topi (fun x1 ex1 => ?_)
  have hf := hf.trans (kE1 ex1)
  refine lv_istore_n (lv' := [(2, .int x1), (0, .ref mo), (1, .int a1)]) hx hb dX4_moved_8 rfl hl (by decide) rfl (fun ls hl => ?_)
  refine lv_aload_n hx hb dX4_moved_9 rfl (lv_at hl 1 rfl) ?_
  refine lv_iconst (v := 0) hx hb dX4_moved_10 (by decide) ?_
  refine lv_iconst (v := 0) hx hb dX4_moved_11 (by decide) ?_
  refine lv_iload_n hx hb dX4_moved_12 rfl (lv_at hl 0 rfl) ?_
  refine lv_bipush (v := 15) hx hb dX4_moved_13 (by decide) ?_
  refine lv_iand hx hb dX4_moved_15 ?_
  refine lv_iload_n hx hb dX4_moved_16 rfl (lv_at hl 2 rfl) ?_
  refine lv_bipush (v := 15) hx hb dX4_moved_17 (by decide) ?_
  refine lv_iand hx hb dX4_moved_19 ?_
  refine lv_iadd hx hb dX4_moved_20 ?_
  refine lv_bipush (v := 15) hx hb dX4_moved_21 (by decide) ?_
  obtain ⟨TJ4, hTJ4⟩ : ∃ T9 : Bool, T9 = (kIf (kLe ((x1 &&& (15 : Int32)) + (a1 &&& (15 : Int32))) (15 : Int32)) false true) := ⟨_, rfl⟩
  have J4 : ∀ (z3 : Bool), z3 = TJ4 → ∀ (H : Heap) (locs : List Loc) (ls : Array Slot), lv_has ls 3 [(2, .int x1), (0, .ref mo), (1, .int a1)] → va_P D vwCl (kX4 cB cI mo mb ma w_zf w_nf w_hf w_cf w_sp w_pc w_on w_wt w_ht w_bg w_cn w_al w_cl w_ie w_ww w_th w_mm w_bs) H → va_D A (kX4 cB cI mo mb ma w_zf w_nf w_hf w_cf w_sp w_pc w_on w_wt w_ht w_bg w_cn w_al w_cl w_ie w_ww w_th w_mm w_bs) → va_S A s.heap H locs → W p l e (headSpec wwX4_moved rmX4_moved).room s m ([.ref mo, .int a1] : List Value).toArray below meth c H locs 0 0 Q (F0 m 31 ls [.int (bI z3), .int (0 : Int32), .int (0 : Int32), .ref mo]) := by
    intro z3 eJ4 H locs ls hl hP hD hS
    have hf := hf.trans (kE1 (eJ4.trans hTJ4))
    refine lv_iload_n hx hb dX4_moved_31 rfl (lv_at hl 0 rfl) ?_
    refine lv_iload_n hx hb dX4_moved_32 rfl (lv_at hl 2 rfl) ?_
    refine lv_iadd hx hb dX4_moved_33 ?_
    refine lv_sipush (v := 255) hx hb dX4_moved_34 (by decide) ?_
    obtain ⟨TJ7, hTJ7⟩ : ∃ T9 : Bool, T9 = (kIf (kLe (x1 + a1) (255 : Int32)) false true) := ⟨_, rfl⟩
    have J7 : ∀ (z6 : Bool), z6 = TJ7 → ∀ (H : Heap) (locs : List Loc) (ls : Array Slot), lv_has ls 3 [(2, .int x1), (0, .ref mo), (1, .int a1)] → va_P D vwCl (kX4 cB cI mo mb ma w_zf w_nf w_hf w_cf w_sp w_pc w_on w_wt w_ht w_bg w_cn w_al w_cl w_ie w_ww w_th w_mm w_bs) H → va_D A (kX4 cB cI mo mb ma w_zf w_nf w_hf w_cf w_sp w_pc w_on w_wt w_ht w_bg w_cn w_al w_cl w_ie w_ww w_th w_mm w_bs) → va_S A s.heap H locs → W p l e (headSpec wwX4_moved rmX4_moved).room s m ([.ref mo, .int a1] : List Value).toArray below meth c H locs 0 0 Q (F0 m 45 ls [.int (bI z6), .int (bI z3), .int (0 : Int32), .int (0 : Int32), .ref mo]) := by
      intro z6 eJ7 H locs ls hl hP hD hS
      have hf := hf.trans (kE1 (eJ7.trans hTJ7))
      refine kc_Vv (wr := []) (As := [.int (bI false), .int (bI false), .int (bI z3), .int (bI z6)]) (rest := []) (fun u9 => (kX4 cB cI mo mb ma (u9.1) (u9.2.1) (u9.2.2.1) (u9.2.2.2) w_sp w_pc w_on w_wt w_ht w_bg w_cn w_al w_cl w_ie w_ww w_th w_mm w_bs)) ⟨hx, hb, hml, hown, hws⟩ hK hP hD hS hA hT (c_X4_flagsAre l D cB cI mo mb ma H.size w_zf w_nf w_hf w_cf w_sp w_pc w_on w_wt w_ht w_bg w_cn w_al w_cl w_ie w_ww w_th w_mm w_bs false false z3 z6) (cwV 4 hws (gw_V mw_448 mw_449 mw_450 mw_5 mw_451) rfl rfl rfl hdX4_flagsAre ⟨Nat.le_of_ble_eq_true rfl, Nat.le_of_ble_eq_true rfl⟩) [0, 1, 2] [] [0, 1] [0, 1, 2] rfl rfl rfl rfl (by decide) rfl (fun _ => rfl) rfl 0 rfl rfl rfl rfl hl.1 rfl (Nat.le_of_ble_eq_true rfl) dX4_moved_45 ⟨Nat.zero_le _, Nat.zero_le _⟩ (fun u9 H locs hw12 hP hD hS => ?_)
      obtain ⟨b8, b9, b10, b11⟩ := u9
      have hP : va_P D vwCl (kX4 cB cI mo mb ma b8 b9 b10 b11 w_sp w_pc w_on w_wt w_ht w_bg w_cn w_al w_cl w_ie w_ww w_th w_mm w_bs) H := hP
      have hD : va_D A (kX4 cB cI mo mb ma b8 b9 b10 b11 w_sp w_pc w_on w_wt w_ht w_bg w_cn w_al w_cl w_ie w_ww w_th w_mm w_bs) := hD
      have hf := hf.trans (kE4 hw12)
      refine lv_aload_n hx hb dX4_moved_48 rfl (lv_at hl 1 rfl) ?_
      refine va_get (D := D) (ci := 4) (v := .int w_sp) (C := RX4) (T := TX4) (N := 18) hx hb hws inlX4 hown hK hP 0 rfl rfl 6 (by decide) (hws _ mw_382) (fun _ h9 => h9) rfl dX4_moved_49 ?_
      refine lv_iload_n hx hb dX4_moved_52 rfl (lv_at hl 2 rfl) ?_
      refine lv_i2b (v := a1.toInt8.toInt32) hx hb dX4_moved_53 rfl ?_
      refine lv_iadd hx hb dX4_moved_54 ?_
      refine lv_ldc (v := 65535) hx hb hown (hws _ mw_61) dX4_moved_55 ?_
      refine lv_iand hx hb dX4_moved_57 ?_
      rw [← hQ]
      exact W.iret (v := ((w_sp + a1.toInt8.toInt32) &&& (65535 : Int32))) hx hb hr (fun t ht hW => ⟨⟨((w_sp + a1.toInt8.toInt32) &&& (65535 : Int32)), (b8, b9, b10, b11), rfl, hf.symm, by rw [ht]; exact hP, va_K.moved hW.alike hK, hD⟩, hS.F ht⟩) hS.2.2 dX4_moved_58
    have hf := hTJ7
    refine lv_icmp_le (tgt := 44) hx hb dX4_moved_37 (by decide) (fun c5 => ?_) (fun c5 => ?_)
    · have hf := hf.trans (kt_le c5)
      refine lv_iconst (v := 0) hx hb dX4_moved_44 (by decide) ?_
      exact J7 false hf.symm H locs ls (lv_sub hl [0, 1, 2] rfl) hP hD hS
    · have hf := hf.trans (kf_le c5)
      refine lv_iconst (v := 1) hx hb dX4_moved_40 (by decide) ?_
      refine lv_goto (tgt := 45) hx hb dX4_moved_41 (by decide) ?_
      exact J7 true hf.symm H locs ls (lv_sub hl [0, 1, 2] rfl) hP hD hS
  have hf := hTJ4
  refine lv_icmp_le (tgt := 30) hx hb dX4_moved_23 (by decide) (fun c2 => ?_) (fun c2 => ?_)
  · have hf := hf.trans (kt_le c2)
    refine lv_iconst (v := 0) hx hb dX4_moved_30 (by decide) ?_
    exact J4 false hf.symm H locs ls (lv_sub hl [0, 1, 2] rfl) hP hD hS
  · have hf := hf.trans (kf_le c2)
    refine lv_iconst (v := 1) hx hb dX4_moved_26 (by decide) ?_
    refine lv_goto (tgt := 31) hx hb dX4_moved_27 (by decide) ?_
    exact J4 true hf.symm H locs ls (lv_sub hl [0, 1, 2] rfl) hP hD hS
def fX4_holds (w_zf : Bool) (w_cf : Bool) (a1 : Int32) : Bool := (kIf (kEq a1 (0 : Int32)) (kIf (kEq (bI w_zf) (0 : Int32)) true false) (kIf (kEq a1 (1 : Int32)) w_zf (kIf (kEq a1 (2 : Int32)) (kIf (kEq (bI w_cf) (0 : Int32)) true false) w_cf)))
def rmX4_holds : Room := { frames := 0, cells := 0, slots := 0, locals := 0 }
def wwX4_holds : List Cond := Cond.code yX4_holds cX4_holds 2 (some .boolean) :: wsL_law
theorem hdX4_holds : yX4_holds.cls = RX4 ∧ yX4_holds.cls ≠ "java/lang/invoke/MethodHandle" ∧ yX4_holds.cls ≠ "java/lang/invoke/VarHandle" ∧ (parseMethodDescriptor yX4_holds.desc).map (fun d => d.parameters.length) = some 1 := by decide +kernel
set_option maxHeartbeats 4000000 in
set_option maxRecDepth 100000 in
theorem c_X4_holds (l : Launch) (D : va_G) (cB : ClassId) (cI : ClassId) (mo mb ma sz : Nat) (w_zf : Bool) (w_nf : Bool) (w_hf : Bool) (w_cf : Bool) (w_sp : Int32) (w_pc : Int32) (w_on : Bool) (w_wt : Bool) (w_ht : Bool) (w_bg : Bool) (w_cn : Int32) (w_al : Int32) (w_cl : Int32) (w_ie : Bool) (w_ww : Bool) (w_th : Int32) (w_mm : Nat → Int32) (w_bs : Nat → Int32) (a1 : Int32)  : Met l yX4_holds wwX4_holds rmX4_holds (va_Pc [.ref mo, .int a1] (kp D (kX4 cB cI mo mb ma w_zf w_nf w_hf w_cf w_sp w_pc w_on w_wt w_ht w_bg w_cn w_al w_cl w_ie w_ww w_th w_mm w_bs) [(cB, .byte), (cI, .int)] sz)) (va_Qi (fun (r : Int32) (_ : Unit) => ∃ z9 : Bool, r = bI z9 ∧ z9 = fX4_holds w_zf w_cf a1) (fun _ t => kq D (kX4 cB cI mo mb ma w_zf w_nf w_hf w_cf w_sp w_pc w_on w_wt w_ht w_bg w_cn w_al w_cl w_ie w_ww w_th w_mm w_bs) [(cB, .byte), (cI, .int)] (va_A (kX4 cB cI mo mb ma w_zf w_nf w_hf w_cf w_sp w_pc w_on w_wt w_ht w_bg w_cn w_al w_cl w_ie w_ww w_th w_mm w_bs) sz) t) (va_A (kX4 cB cI mo mb ma w_zf w_nf w_hf w_cf w_sp w_pc w_on w_wt w_ht w_bg w_cn w_al w_cl w_ie w_ww w_th w_mm w_bs) sz)) 0 0 (va_A (kX4 cB cI mo mb ma w_zf w_nf w_hf w_cf w_sp w_pc w_on w_wt w_ht w_bg w_cn w_al w_cl w_ie w_ww w_th w_mm w_bs) sz) := by
  refine Met.ofW (cc := cX4_holds) (maxL := 2) (ret := (some .boolean)) (by decide) rfl ?_
  intro p e s m args below meth c s₁ B hml hv
  obtain ⟨rfl, hsz, hP, hK, hD0, hT⟩ := hv
  have hx := B.exec
  have hb := B.bytes
  have hr := B.returns
  have hts := atoms_spec (ws := wwX4_holds) B.pre
  have hws : ∀ w ∈ wsL_law, w.before _ s = true := fun w h => hts w (List.mem_cons_of_mem _ h)
  have hown : s.vm.findClass RX4 = some m.cls := findClass_of_methodNamed B.named
  have hlocks := B.notSynchronized
  subst hsz
  have hD := hD0.self (sz := s.heap.size)
  generalize hAe : va_A (kX4 cB cI mo mb ma w_zf w_nf w_hf w_cf w_sp w_pc w_on w_wt w_ht w_bg w_cn w_al w_cl w_ie w_ww w_th w_mm w_bs) s.heap.size = A at hD hT ⊢
  have hA : ∀ q : Nat, s.heap.size ≤ q → A q := fun q h => by rw [← hAe]; exact Or.inr h
  have hS : va_S A s.heap s.heap [] := va_S.rf
  have hl := lv_entry ([.ref mo, .int a1]) (n := 2) (Nat.le_of_ble_eq_true rfl)
  rw [lg_entry_eq]
  generalize (lg_sl ([.ref mo, .int a1]) ++ List.replicate (2 - (lg_sl ([.ref mo, .int a1])).length) Slot.unset).toArray = ls at hl ⊢
  have hl : lv_has ls 2 [(0, .ref mo), (1, .int a1)] := hl
  generalize hQ : MQ _ _ _ _ _ _ _ = Q
  obtain ⟨H, hHe⟩ : ∃ H : Heap, H = s.heap := ⟨_, rfl⟩
  obtain ⟨locs, hle⟩ : ∃ L : List Loc, L = [] := ⟨_, rfl⟩
  have hP : va_P D vwCl (kX4 cB cI mo mb ma w_zf w_nf w_hf w_cf w_sp w_pc w_on w_wt w_ht w_bg w_cn w_al w_cl w_ie w_ww w_th w_mm w_bs) H := by rw [hHe]; exact hP
  have hS : va_S A s.heap H locs := by rw [hHe, hle]; exact hS
  refine kw_start hHe.symm hle.symm ?_
  have hf : fX4_holds w_zf w_cf a1 = fX4_holds w_zf w_cf a1 := rfl
  refine lv_iload_n hx hb dX4_holds_0 rfl (lv_at hl 1 rfl) ?_
  refine lv_if_ne (tgt := 19) hx hb dX4_holds_1 (by decide) (fun c1 => ?_) (fun c1 => ?_)
  · have hf := hf.trans (kf_eq c1)
    refine lv_iload_n hx hb dX4_holds_19 rfl (lv_at hl 1 rfl) ?_
    refine lv_iconst (v := 1) hx hb dX4_holds_20 (by decide) ?_
    refine lv_icmp_ne (tgt := 31) hx hb dX4_holds_21 (by decide) (fun c2 => ?_) (fun c2 => ?_)
    · have hf := hf.trans (kf_eq c2)
      refine lv_iload_n hx hb dX4_holds_31 rfl (lv_at hl 1 rfl) ?_
      refine lv_iconst (v := 2) hx hb dX4_holds_32 (by decide) ?_
      refine lv_icmp_ne (tgt := 51) hx hb dX4_holds_33 (by decide) (fun c3 => ?_) (fun c3 => ?_)
      · have hf := hf.trans (kf_eq c3)
        refine lv_aload_n hx hb dX4_holds_51 rfl (lv_at hl 0 rfl) ?_
        refine va_get (D := D) (ci := 4) (v := .int (bI w_cf)) (C := RX4) (T := TX4) (N := 18) hx hb hws inlX4 hown hK hP 0 rfl rfl 5 (by decide) (hws _ mw_431) (fun _ h9 => h9) rfl dX4_holds_52 ?_
        rw [← hQ]
        exact W.zret (v := bI w_cf) (ty := .boolean) hx hb hr (bI_nar _) (fun t ht hW => ⟨⟨bI w_cf, (), rfl, ⟨w_cf, rfl, hf.symm⟩, by rw [ht]; exact hP, va_K.moved hW.alike hK, hD⟩, hS.F ht⟩) hS.2.2 dX4_holds_55
      · have hf := hf.trans (kt_eq c3)
        refine lv_aload_n hx hb dX4_holds_36 rfl (lv_at hl 0 rfl) ?_
        refine va_get (D := D) (ci := 4) (v := .int (bI w_cf)) (C := RX4) (T := TX4) (N := 18) hx hb hws inlX4 hown hK hP 0 rfl rfl 5 (by decide) (hws _ mw_431) (fun _ h9 => h9) rfl dX4_holds_37 ?_
        refine lv_if_ne (tgt := 47) hx hb dX4_holds_40 (by decide) (fun c4 => ?_) (fun c4 => ?_)
        · have hf := hf.trans (kf_eq c4)
          refine lv_iconst (v := 0) hx hb dX4_holds_47 (by decide) ?_
          refine lv_goto (tgt := 55) hx hb dX4_holds_48 (by decide) ?_
          rw [← hQ]
          exact W.zret (v := bI false) (ty := .boolean) hx hb hr (bI_nar _) (fun t ht hW => ⟨⟨bI false, (), rfl, ⟨false, rfl, hf.symm⟩, by rw [ht]; exact hP, va_K.moved hW.alike hK, hD⟩, hS.F ht⟩) hS.2.2 dX4_holds_55
        · have hf := hf.trans (kt_eq c4)
          refine lv_iconst (v := 1) hx hb dX4_holds_43 (by decide) ?_
          refine lv_goto (tgt := 55) hx hb dX4_holds_44 (by decide) ?_
          rw [← hQ]
          exact W.zret (v := bI true) (ty := .boolean) hx hb hr (bI_nar _) (fun t ht hW => ⟨⟨bI true, (), rfl, ⟨true, rfl, hf.symm⟩, by rw [ht]; exact hP, va_K.moved hW.alike hK, hD⟩, hS.F ht⟩) hS.2.2 dX4_holds_55
    · have hf := hf.trans (kt_eq c2)
      refine lv_aload_n hx hb dX4_holds_24 rfl (lv_at hl 0 rfl) ?_
      refine va_get (D := D) (ci := 4) (v := .int (bI w_zf)) (C := RX4) (T := TX4) (N := 18) hx hb hws inlX4 hown hK hP 0 rfl rfl 2 (by decide) (hws _ mw_430) (fun _ h9 => h9) rfl dX4_holds_25 ?_
      refine lv_goto (tgt := 55) hx hb dX4_holds_28 (by decide) ?_
      rw [← hQ]
      exact W.zret (v := bI w_zf) (ty := .boolean) hx hb hr (bI_nar _) (fun t ht hW => ⟨⟨bI w_zf, (), rfl, ⟨w_zf, rfl, hf.symm⟩, by rw [ht]; exact hP, va_K.moved hW.alike hK, hD⟩, hS.F ht⟩) hS.2.2 dX4_holds_55
  · have hf := hf.trans (kt_eq c1)
    refine lv_aload_n hx hb dX4_holds_4 rfl (lv_at hl 0 rfl) ?_
    refine va_get (D := D) (ci := 4) (v := .int (bI w_zf)) (C := RX4) (T := TX4) (N := 18) hx hb hws inlX4 hown hK hP 0 rfl rfl 2 (by decide) (hws _ mw_430) (fun _ h9 => h9) rfl dX4_holds_5 ?_
    refine lv_if_ne (tgt := 15) hx hb dX4_holds_8 (by decide) (fun c5 => ?_) (fun c5 => ?_)
    · have hf := hf.trans (kf_eq c5)
      refine lv_iconst (v := 0) hx hb dX4_holds_15 (by decide) ?_
      refine lv_goto (tgt := 55) hx hb dX4_holds_16 (by decide) ?_
      rw [← hQ]
      exact W.zret (v := bI false) (ty := .boolean) hx hb hr (bI_nar _) (fun t ht hW => ⟨⟨bI false, (), rfl, ⟨false, rfl, hf.symm⟩, by rw [ht]; exact hP, va_K.moved hW.alike hK, hD⟩, hS.F ht⟩) hS.2.2 dX4_holds_55
    · have hf := hf.trans (kt_eq c5)
      refine lv_iconst (v := 1) hx hb dX4_holds_11 (by decide) ?_
      refine lv_goto (tgt := 55) hx hb dX4_holds_12 (by decide) ?_
      rw [← hQ]
      exact W.zret (v := bI true) (ty := .boolean) hx hb hr (bI_nar _) (fun t ht hW => ⟨⟨bI true, (), rfl, ⟨true, rfl, hf.symm⟩, by rw [ht]; exact hP, va_K.moved hW.alike hK, hD⟩, hS.F ht⟩) hS.2.2 dX4_holds_55
def fX4_isNone  (a1 : Int32) : Bool := (kIf (kEq a1 (211 : Int32)) true (kIf (kEq a1 (219 : Int32)) true (kIf (kEq a1 (221 : Int32)) true (kIf (kEq a1 (227 : Int32)) true (kIf (kEq a1 (228 : Int32)) true (kIf (kEq a1 (235 : Int32)) true (kIf (kEq a1 (236 : Int32)) true (kIf (kEq a1 (237 : Int32)) true (kIf (kEq a1 (244 : Int32)) true (kIf (kEq a1 (252 : Int32)) true (kIf (kEq a1 (253 : Int32)) true (kIf (kEq a1 (16 : Int32)) true false))))))))))))
def rmX4_isNone : Room := { frames := 0, cells := 0, slots := 0, locals := 0 }
def wwX4_isNone : List Cond := Cond.code yX4_isNone cX4_isNone 1 (some .boolean) :: wsL_law
theorem hdX4_isNone : yX4_isNone.cls = RX4 ∧ yX4_isNone.cls ≠ "java/lang/invoke/MethodHandle" ∧ yX4_isNone.cls ≠ "java/lang/invoke/VarHandle" ∧ (parseMethodDescriptor yX4_isNone.desc).map (fun d => d.parameters.length) = some 1 := by decide +kernel
set_option maxHeartbeats 4000000 in
set_option maxRecDepth 100000 in
theorem c_X4_isNone (l : Launch) (D : va_G) (sz : Nat) (a1 : Int32)  : Met l yX4_isNone wwX4_isNone rmX4_isNone (va_Pc [.int a1] (kp D [] [] sz)) (va_Qi (fun (r : Int32) (_ : Unit) => ∃ z9 : Bool, r = bI z9 ∧ z9 = fX4_isNone a1) (fun _ t => kq D [] [] (va_A [] sz) t) (va_A [] sz)) 0 0 (va_A [] sz) := by
  refine Met.ofW (cc := cX4_isNone) (maxL := 1) (ret := (some .boolean)) (by decide) rfl ?_
  intro p e s m args below meth c s₁ B hml hv
  obtain ⟨rfl, hsz, hP, hK, hD0, hT⟩ := hv
  have hx := B.exec
  have hb := B.bytes
  have hr := B.returns
  have hts := atoms_spec (ws := wwX4_isNone) B.pre
  have hws : ∀ w ∈ wsL_law, w.before _ s = true := fun w h => hts w (List.mem_cons_of_mem _ h)
  have hown : s.vm.findClass RX4 = some m.cls := findClass_of_methodNamed B.named
  have hlocks := B.notSynchronized
  subst hsz
  have hD := hD0.self (sz := s.heap.size)
  generalize hAe : va_A [] s.heap.size = A at hD hT ⊢
  have hA : ∀ q : Nat, s.heap.size ≤ q → A q := fun q h => by rw [← hAe]; exact Or.inr h
  have hS : va_S A s.heap s.heap [] := va_S.rf
  have hl := lv_entry ([.int a1]) (n := 1) (Nat.le_of_ble_eq_true rfl)
  rw [lg_entry_eq]
  generalize (lg_sl ([.int a1]) ++ List.replicate (1 - (lg_sl ([.int a1])).length) Slot.unset).toArray = ls at hl ⊢
  have hl : lv_has ls 1 [(0, .int a1)] := hl
  generalize hQ : MQ _ _ _ _ _ _ _ = Q
  obtain ⟨H, hHe⟩ : ∃ H : Heap, H = s.heap := ⟨_, rfl⟩
  obtain ⟨locs, hle⟩ : ∃ L : List Loc, L = [] := ⟨_, rfl⟩
  have hP : va_P D vwCl [] H := by rw [hHe]; exact hP
  have hS : va_S A s.heap H locs := by rw [hHe, hle]; exact hS
  refine kw_start hHe.symm hle.symm ?_
  have hf : fX4_isNone a1 = fX4_isNone a1 := rfl
  refine lv_iload_n hx hb dX4_isNone_0 rfl (lv_at hl 0 rfl) ?_
  refine lv_sipush (v := 211) hx hb dX4_isNone_1 (by decide) ?_
  refine lv_icmp_eq (tgt := 83) hx hb dX4_isNone_4 (by decide) (fun c1 => ?_) (fun c1 => ?_)
  · have hf := hf.trans (kt_eq c1)
    refine lv_iconst (v := 1) hx hb dX4_isNone_83 (by decide) ?_
    refine lv_goto (tgt := 88) hx hb dX4_isNone_84 (by decide) ?_
    rw [← hQ]
    exact W.zret (v := bI true) (ty := .boolean) hx hb hr (bI_nar _) (fun t ht hW => ⟨⟨bI true, (), rfl, ⟨true, rfl, hf.symm⟩, by rw [ht]; exact hP, va_K.moved hW.alike hK, hD⟩, hS.F ht⟩) hS.2.2 dX4_isNone_88
  · have hf := hf.trans (kf_eq c1)
    refine lv_iload_n hx hb dX4_isNone_7 rfl (lv_at hl 0 rfl) ?_
    refine lv_sipush (v := 219) hx hb dX4_isNone_8 (by decide) ?_
    refine lv_icmp_eq (tgt := 83) hx hb dX4_isNone_11 (by decide) (fun c2 => ?_) (fun c2 => ?_)
    · have hf := hf.trans (kt_eq c2)
      refine lv_iconst (v := 1) hx hb dX4_isNone_83 (by decide) ?_
      refine lv_goto (tgt := 88) hx hb dX4_isNone_84 (by decide) ?_
      rw [← hQ]
      exact W.zret (v := bI true) (ty := .boolean) hx hb hr (bI_nar _) (fun t ht hW => ⟨⟨bI true, (), rfl, ⟨true, rfl, hf.symm⟩, by rw [ht]; exact hP, va_K.moved hW.alike hK, hD⟩, hS.F ht⟩) hS.2.2 dX4_isNone_88
    · have hf := hf.trans (kf_eq c2)
      refine lv_iload_n hx hb dX4_isNone_14 rfl (lv_at hl 0 rfl) ?_
      refine lv_sipush (v := 221) hx hb dX4_isNone_15 (by decide) ?_
      refine lv_icmp_eq (tgt := 83) hx hb dX4_isNone_18 (by decide) (fun c3 => ?_) (fun c3 => ?_)
      · have hf := hf.trans (kt_eq c3)
        refine lv_iconst (v := 1) hx hb dX4_isNone_83 (by decide) ?_
        refine lv_goto (tgt := 88) hx hb dX4_isNone_84 (by decide) ?_
        rw [← hQ]
        exact W.zret (v := bI true) (ty := .boolean) hx hb hr (bI_nar _) (fun t ht hW => ⟨⟨bI true, (), rfl, ⟨true, rfl, hf.symm⟩, by rw [ht]; exact hP, va_K.moved hW.alike hK, hD⟩, hS.F ht⟩) hS.2.2 dX4_isNone_88
      · have hf := hf.trans (kf_eq c3)
        refine lv_iload_n hx hb dX4_isNone_21 rfl (lv_at hl 0 rfl) ?_
        refine lv_sipush (v := 227) hx hb dX4_isNone_22 (by decide) ?_
        refine lv_icmp_eq (tgt := 83) hx hb dX4_isNone_25 (by decide) (fun c4 => ?_) (fun c4 => ?_)
        · have hf := hf.trans (kt_eq c4)
          refine lv_iconst (v := 1) hx hb dX4_isNone_83 (by decide) ?_
          refine lv_goto (tgt := 88) hx hb dX4_isNone_84 (by decide) ?_
          rw [← hQ]
          exact W.zret (v := bI true) (ty := .boolean) hx hb hr (bI_nar _) (fun t ht hW => ⟨⟨bI true, (), rfl, ⟨true, rfl, hf.symm⟩, by rw [ht]; exact hP, va_K.moved hW.alike hK, hD⟩, hS.F ht⟩) hS.2.2 dX4_isNone_88
        · have hf := hf.trans (kf_eq c4)
          refine lv_iload_n hx hb dX4_isNone_28 rfl (lv_at hl 0 rfl) ?_
          refine lv_sipush (v := 228) hx hb dX4_isNone_29 (by decide) ?_
          refine lv_icmp_eq (tgt := 83) hx hb dX4_isNone_32 (by decide) (fun c5 => ?_) (fun c5 => ?_)
          · have hf := hf.trans (kt_eq c5)
            refine lv_iconst (v := 1) hx hb dX4_isNone_83 (by decide) ?_
            refine lv_goto (tgt := 88) hx hb dX4_isNone_84 (by decide) ?_
            rw [← hQ]
            exact W.zret (v := bI true) (ty := .boolean) hx hb hr (bI_nar _) (fun t ht hW => ⟨⟨bI true, (), rfl, ⟨true, rfl, hf.symm⟩, by rw [ht]; exact hP, va_K.moved hW.alike hK, hD⟩, hS.F ht⟩) hS.2.2 dX4_isNone_88
          · have hf := hf.trans (kf_eq c5)
            refine lv_iload_n hx hb dX4_isNone_35 rfl (lv_at hl 0 rfl) ?_
            refine lv_sipush (v := 235) hx hb dX4_isNone_36 (by decide) ?_
            refine lv_icmp_eq (tgt := 83) hx hb dX4_isNone_39 (by decide) (fun c6 => ?_) (fun c6 => ?_)
            · have hf := hf.trans (kt_eq c6)
              refine lv_iconst (v := 1) hx hb dX4_isNone_83 (by decide) ?_
              refine lv_goto (tgt := 88) hx hb dX4_isNone_84 (by decide) ?_
              rw [← hQ]
              exact W.zret (v := bI true) (ty := .boolean) hx hb hr (bI_nar _) (fun t ht hW => ⟨⟨bI true, (), rfl, ⟨true, rfl, hf.symm⟩, by rw [ht]; exact hP, va_K.moved hW.alike hK, hD⟩, hS.F ht⟩) hS.2.2 dX4_isNone_88
            · have hf := hf.trans (kf_eq c6)
              refine lv_iload_n hx hb dX4_isNone_42 rfl (lv_at hl 0 rfl) ?_
              refine lv_sipush (v := 236) hx hb dX4_isNone_43 (by decide) ?_
              refine lv_icmp_eq (tgt := 83) hx hb dX4_isNone_46 (by decide) (fun c7 => ?_) (fun c7 => ?_)
              · have hf := hf.trans (kt_eq c7)
                refine lv_iconst (v := 1) hx hb dX4_isNone_83 (by decide) ?_
                refine lv_goto (tgt := 88) hx hb dX4_isNone_84 (by decide) ?_
                rw [← hQ]
                exact W.zret (v := bI true) (ty := .boolean) hx hb hr (bI_nar _) (fun t ht hW => ⟨⟨bI true, (), rfl, ⟨true, rfl, hf.symm⟩, by rw [ht]; exact hP, va_K.moved hW.alike hK, hD⟩, hS.F ht⟩) hS.2.2 dX4_isNone_88
              · have hf := hf.trans (kf_eq c7)
                refine lv_iload_n hx hb dX4_isNone_49 rfl (lv_at hl 0 rfl) ?_
                refine lv_sipush (v := 237) hx hb dX4_isNone_50 (by decide) ?_
                refine lv_icmp_eq (tgt := 83) hx hb dX4_isNone_53 (by decide) (fun c8 => ?_) (fun c8 => ?_)
                · have hf := hf.trans (kt_eq c8)
                  refine lv_iconst (v := 1) hx hb dX4_isNone_83 (by decide) ?_
                  refine lv_goto (tgt := 88) hx hb dX4_isNone_84 (by decide) ?_
                  rw [← hQ]
                  exact W.zret (v := bI true) (ty := .boolean) hx hb hr (bI_nar _) (fun t ht hW => ⟨⟨bI true, (), rfl, ⟨true, rfl, hf.symm⟩, by rw [ht]; exact hP, va_K.moved hW.alike hK, hD⟩, hS.F ht⟩) hS.2.2 dX4_isNone_88
                · have hf := hf.trans (kf_eq c8)
                  refine lv_iload_n hx hb dX4_isNone_56 rfl (lv_at hl 0 rfl) ?_
                  refine lv_sipush (v := 244) hx hb dX4_isNone_57 (by decide) ?_
                  refine lv_icmp_eq (tgt := 83) hx hb dX4_isNone_60 (by decide) (fun c9 => ?_) (fun c9 => ?_)
                  · have hf := hf.trans (kt_eq c9)
                    refine lv_iconst (v := 1) hx hb dX4_isNone_83 (by decide) ?_
                    refine lv_goto (tgt := 88) hx hb dX4_isNone_84 (by decide) ?_
                    rw [← hQ]
                    exact W.zret (v := bI true) (ty := .boolean) hx hb hr (bI_nar _) (fun t ht hW => ⟨⟨bI true, (), rfl, ⟨true, rfl, hf.symm⟩, by rw [ht]; exact hP, va_K.moved hW.alike hK, hD⟩, hS.F ht⟩) hS.2.2 dX4_isNone_88
                  · have hf := hf.trans (kf_eq c9)
                    refine lv_iload_n hx hb dX4_isNone_63 rfl (lv_at hl 0 rfl) ?_
                    refine lv_sipush (v := 252) hx hb dX4_isNone_64 (by decide) ?_
                    refine lv_icmp_eq (tgt := 83) hx hb dX4_isNone_67 (by decide) (fun c10 => ?_) (fun c10 => ?_)
                    · have hf := hf.trans (kt_eq c10)
                      refine lv_iconst (v := 1) hx hb dX4_isNone_83 (by decide) ?_
                      refine lv_goto (tgt := 88) hx hb dX4_isNone_84 (by decide) ?_
                      rw [← hQ]
                      exact W.zret (v := bI true) (ty := .boolean) hx hb hr (bI_nar _) (fun t ht hW => ⟨⟨bI true, (), rfl, ⟨true, rfl, hf.symm⟩, by rw [ht]; exact hP, va_K.moved hW.alike hK, hD⟩, hS.F ht⟩) hS.2.2 dX4_isNone_88
                    · have hf := hf.trans (kf_eq c10)
                      refine lv_iload_n hx hb dX4_isNone_70 rfl (lv_at hl 0 rfl) ?_
                      refine lv_sipush (v := 253) hx hb dX4_isNone_71 (by decide) ?_
                      refine lv_icmp_eq (tgt := 83) hx hb dX4_isNone_74 (by decide) (fun c11 => ?_) (fun c11 => ?_)
                      · have hf := hf.trans (kt_eq c11)
                        refine lv_iconst (v := 1) hx hb dX4_isNone_83 (by decide) ?_
                        refine lv_goto (tgt := 88) hx hb dX4_isNone_84 (by decide) ?_
                        rw [← hQ]
                        exact W.zret (v := bI true) (ty := .boolean) hx hb hr (bI_nar _) (fun t ht hW => ⟨⟨bI true, (), rfl, ⟨true, rfl, hf.symm⟩, by rw [ht]; exact hP, va_K.moved hW.alike hK, hD⟩, hS.F ht⟩) hS.2.2 dX4_isNone_88
                      · have hf := hf.trans (kf_eq c11)
                        refine lv_iload_n hx hb dX4_isNone_77 rfl (lv_at hl 0 rfl) ?_
                        refine lv_bipush (v := 16) hx hb dX4_isNone_78 (by decide) ?_
                        refine lv_icmp_ne (tgt := 87) hx hb dX4_isNone_80 (by decide) (fun c12 => ?_) (fun c12 => ?_)
                        · have hf := hf.trans (kf_eq c12)
                          refine lv_iconst (v := 0) hx hb dX4_isNone_87 (by decide) ?_
                          rw [← hQ]
                          exact W.zret (v := bI false) (ty := .boolean) hx hb hr (bI_nar _) (fun t ht hW => ⟨⟨bI false, (), rfl, ⟨false, rfl, hf.symm⟩, by rw [ht]; exact hP, va_K.moved hW.alike hK, hD⟩, hS.F ht⟩) hS.2.2 dX4_isNone_88
                        · have hf := hf.trans (kt_eq c12)
                          refine lv_iconst (v := 1) hx hb dX4_isNone_83 (by decide) ?_
                          refine lv_goto (tgt := 88) hx hb dX4_isNone_84 (by decide) ?_
                          rw [← hQ]
                          exact W.zret (v := bI true) (ty := .boolean) hx hb hr (bI_nar _) (fun t ht hW => ⟨⟨bI true, (), rfl, ⟨true, rfl, hf.symm⟩, by rw [ht]; exact hP, va_K.moved hW.alike hK, hD⟩, hS.F ht⟩) hS.2.2 dX4_isNone_88
def fX4_jumpsNear (w_zf : Bool) (w_cf : Bool) (w_sp : Int32) (w_pc : Int32) (w_cn : Int32) (w_cl : Int32) (w_mm : Nat → Int32) (a1 : Int32) : Int32 × Int32 × Int32 × (Nat → Int32) := (kIf (kEq a1 (0 : Int32)) (w_pc, w_cn, w_cl, w_mm) (kIf (kEq a1 (1 : Int32)) (kU3 (fX4_fetchWord w_pc w_cl w_mm) (fun (r19 : Int32) (b16 : Int32) (b17 : Int32) => (kU3 (fX4_writes w_cn b17 w_mm r19 (w_sp &&& (255 : Int32))) (fun (b20 : Int32) (b21 : Int32) (b22 : Nat → Int32) => (kU3 (fX4_writes b20 b21 b22 (r19 + (1 : Int32)) (w_sp >>> ((8 : Int32) &&& (31 : Int32)))) (fun (b24 : Int32) (b25 : Int32) (b26 : Nat → Int32) => (b16, b24, b25, b26))))))) (kU3 (fX4_fetch w_pc w_cl w_mm) (fun (r6 : Int32) (b3 : Int32) (b4 : Int32) => (kIf (kEq a1 (3 : Int32)) (kU1 ((b4 + (1 : Int32))) (fun (x8 : Int32) => (kU1 (((b3 + r6.toInt8.toInt32) &&& (65535 : Int32))) (fun (x9 : Int32) => (x9, w_cn, x8, w_mm))))) (kU1 (fX4_holds w_zf w_cf (a1 - (4 : Int32))) (fun (z12 : Bool) => (kIf (kEq (bI z12) (0 : Int32)) (b3, w_cn, b4, w_mm) (kU1 ((b4 + (1 : Int32))) (fun (x14 : Int32) => (kU1 (((b3 + r6.toInt8.toInt32) &&& (65535 : Int32))) (fun (x15 : Int32) => (x15, w_cn, x14, w_mm)))))))))))))
def rmX4_jumpsNear : Room := { frames := 4, cells := 0, slots := 0, locals := 84 }
def wwX4_jumpsNear : List Cond := Cond.code yX4_jumpsNear cX4_jumpsNear 3 none :: wsL_law
theorem hdX4_jumpsNear : yX4_jumpsNear.cls = RX4 ∧ yX4_jumpsNear.cls ≠ "java/lang/invoke/MethodHandle" ∧ yX4_jumpsNear.cls ≠ "java/lang/invoke/VarHandle" ∧ (parseMethodDescriptor yX4_jumpsNear.desc).map (fun d => d.parameters.length) = some 1 := by decide +kernel
set_option maxHeartbeats 4000000 in
set_option maxRecDepth 100000 in
theorem c_X4_jumpsNear (l : Launch) (D : va_G) (cB : ClassId) (cI : ClassId) (mo mb ma sz : Nat) (w_zf : Bool) (w_nf : Bool) (w_hf : Bool) (w_cf : Bool) (w_sp : Int32) (w_pc : Int32) (w_on : Bool) (w_wt : Bool) (w_ht : Bool) (w_bg : Bool) (w_cn : Int32) (w_al : Int32) (w_cl : Int32) (w_ie : Bool) (w_ww : Bool) (w_th : Int32) (w_mm : Nat → Int32) (w_bs : Nat → Int32) (a1 : Int32)  : Met l yX4_jumpsNear wwX4_jumpsNear rmX4_jumpsNear (va_Pc [.ref mo, .int a1] (kp D (kX4 cB cI mo mb ma w_zf w_nf w_hf w_cf w_sp w_pc w_on w_wt w_ht w_bg w_cn w_al w_cl w_ie w_ww w_th w_mm w_bs) [(cB, .byte), (cI, .int)] sz)) (va_Qv (fun (u9 : Int32 × Int32 × Int32 × (Nat → Int32)) => u9 = fX4_jumpsNear w_zf w_cf w_sp w_pc w_cn w_cl w_mm a1) (fun u9 t => kq D (kX4 cB cI mo mb ma w_zf w_nf w_hf w_cf w_sp (u9.1) w_on w_wt w_ht w_bg (u9.2.1) w_al (u9.2.2.1) w_ie w_ww w_th (u9.2.2.2) w_bs) [(cB, .byte), (cI, .int)] (va_A (kX4 cB cI mo mb ma w_zf w_nf w_hf w_cf w_sp w_pc w_on w_wt w_ht w_bg w_cn w_al w_cl w_ie w_ww w_th w_mm w_bs) sz) t) (va_A (kX4 cB cI mo mb ma w_zf w_nf w_hf w_cf w_sp w_pc w_on w_wt w_ht w_bg w_cn w_al w_cl w_ie w_ww w_th w_mm w_bs) sz)) 0 0 (va_A (kX4 cB cI mo mb ma w_zf w_nf w_hf w_cf w_sp w_pc w_on w_wt w_ht w_bg w_cn w_al w_cl w_ie w_ww w_th w_mm w_bs) sz) := by
  refine Met.ofW (cc := cX4_jumpsNear) (maxL := 3) (ret := none) (by decide) rfl ?_
  intro p e s m args below meth c s₁ B hml hv
  obtain ⟨rfl, hsz, hP, hK, hD0, hT⟩ := hv
  have hx := B.exec
  have hb := B.bytes
  have hr := B.returns
  have hts := atoms_spec (ws := wwX4_jumpsNear) B.pre
  have hws : ∀ w ∈ wsL_law, w.before _ s = true := fun w h => hts w (List.mem_cons_of_mem _ h)
  have hown : s.vm.findClass RX4 = some m.cls := findClass_of_methodNamed B.named
  have hlocks := B.notSynchronized
  subst hsz
  have hD := hD0.self (sz := s.heap.size)
  generalize hAe : va_A (kX4 cB cI mo mb ma w_zf w_nf w_hf w_cf w_sp w_pc w_on w_wt w_ht w_bg w_cn w_al w_cl w_ie w_ww w_th w_mm w_bs) s.heap.size = A at hD hT ⊢
  have hA : ∀ q : Nat, s.heap.size ≤ q → A q := fun q h => by rw [← hAe]; exact Or.inr h
  have hS : va_S A s.heap s.heap [] := va_S.rf
  have hl := lv_entry ([.ref mo, .int a1]) (n := 3) (Nat.le_of_ble_eq_true rfl)
  rw [lg_entry_eq]
  generalize (lg_sl ([.ref mo, .int a1]) ++ List.replicate (3 - (lg_sl ([.ref mo, .int a1])).length) Slot.unset).toArray = ls at hl ⊢
  have hl : lv_has ls 3 [(0, .ref mo), (1, .int a1)] := hl
  generalize hQ : MQ _ _ _ _ _ _ _ = Q
  obtain ⟨H, hHe⟩ : ∃ H : Heap, H = s.heap := ⟨_, rfl⟩
  obtain ⟨locs, hle⟩ : ∃ L : List Loc, L = [] := ⟨_, rfl⟩
  have hP : va_P D vwCl (kX4 cB cI mo mb ma w_zf w_nf w_hf w_cf w_sp w_pc w_on w_wt w_ht w_bg w_cn w_al w_cl w_ie w_ww w_th w_mm w_bs) H := by rw [hHe]; exact hP
  have hS : va_S A s.heap H locs := by rw [hHe, hle]; exact hS
  refine kw_start hHe.symm hle.symm ?_
  have hf : fX4_jumpsNear w_zf w_cf w_sp w_pc w_cn w_cl w_mm a1 = fX4_jumpsNear w_zf w_cf w_sp w_pc w_cn w_cl w_mm a1 := rfl
  refine lv_iload_n hx hb dX4_jumpsNear_0 rfl (lv_at hl 1 rfl) ?_
  refine lv_if_ne (tgt := 5) hx hb dX4_jumpsNear_1 (by decide) (fun c1 => ?_) (fun c1 => ?_)
  · have hf := hf.trans (kf_eq c1)
    refine lv_iload_n hx hb dX4_jumpsNear_5 rfl (lv_at hl 1 rfl) ?_
    refine lv_iconst (v := 1) hx hb dX4_jumpsNear_6 (by decide) ?_
    refine lv_icmp_ne (tgt := 43) hx hb dX4_jumpsNear_7 (by decide) (fun c2 => ?_) (fun c2 => ?_)
    · have hf := hf.trans (kf_eq c2)
      refine lv_aload_n hx hb dX4_jumpsNear_43 rfl (lv_at hl 0 rfl) ?_
      refine kc_Vi (wr := []) (As := []) (rest := []) (fun u9 => (kX4 cB cI mo mb ma w_zf w_nf w_hf w_cf w_sp (u9.1) w_on w_wt w_ht w_bg w_cn w_al (u9.2) w_ie w_ww w_th w_mm w_bs)) ⟨hx, hb, hml, hown, hws⟩ hK hP hD hS hA hT (c_X4_fetch l D cB cI mo mb ma H.size w_zf w_nf w_hf w_cf w_sp w_pc w_on w_wt w_ht w_bg w_cn w_al w_cl w_ie w_ww w_th w_mm w_bs ) (cwV 0 hws (gw_V mw_422 mw_423 mw_424 mw_5 mw_425) rfl rfl rfl hdX4_fetch ⟨Nat.le_of_ble_eq_true rfl, Nat.le_of_ble_eq_true rfl⟩) [0, 1, 2] [] [0, 1] [0, 1, 2] rfl rfl rfl rfl (by decide) rfl (fun _ => rfl) rfl 0 rfl rfl rfl rfl hl.1 rfl (Nat.le_of_ble_eq_true rfl) dX4_jumpsNear_44 ⟨Nat.zero_le _, Nat.zero_le _⟩ (fun r6 u9 H locs hw5 hP hD hS => ?_)
      obtain ⟨b3, b4⟩ := u9
      have hP : va_P D vwCl (kX4 cB cI mo mb ma w_zf w_nf w_hf w_cf w_sp b3 w_on w_wt w_ht w_bg w_cn w_al b4 w_ie w_ww w_th w_mm w_bs) H := hP
      have hD : va_D A (kX4 cB cI mo mb ma w_zf w_nf w_hf w_cf w_sp b3 w_on w_wt w_ht w_bg w_cn w_al b4 w_ie w_ww w_th w_mm w_bs) := hD
      have hf := hf.trans (kE3 hw5)
      refine lv_istore_n (lv' := [(2, .int r6), (0, .ref mo), (1, .int a1)]) hx hb dX4_jumpsNear_47 rfl hl (by decide) rfl (fun ls hl => ?_)
      refine lv_iload_n hx hb dX4_jumpsNear_48 rfl (lv_at hl 2 rfl) ?_
      refine lv_iconst (v := 3) hx hb dX4_jumpsNear_49 (by decide) ?_
      refine lv_icmp_eq (tgt := 63) hx hb dX4_jumpsNear_50 (by decide) (fun c7 => ?_) (fun c7 => ?_)
      · have hf := hf.trans (kt_eq c7)
        refine lv_aload_n hx hb dX4_jumpsNear_63 rfl (lv_at hl 1 rfl) ?_
        refine lv_dup hx hb dX4_jumpsNear_64 rfl ?_
        refine va_get (D := D) (ci := 4) (v := .int b4) (C := RX4) (T := TX4) (N := 18) hx hb hws inlX4 hown hK hP 0 rfl rfl 14 (by decide) (hws _ mw_367) (fun _ h9 => h9) rfl dX4_jumpsNear_65 ?_
        refine lv_iconst (v := 1) hx hb dX4_jumpsNear_68 (by decide) ?_
        refine lv_iadd hx hb dX4_jumpsNear_69 ?_
        refine lv_topi (fun x8 ex8 => ?_)
        have hf := hf.trans (kE1 ex8)
        refine va_put (D := D) (ci := 4) (v := .int x8) (ty := .int) (C := RX4) (T := TX4) (N := 18) hx hb hws inlX4 tyX4 tyX4_ok nmX4 hown hK hP hD hS 0 rfl rfl 14 (by decide) (hws _ mw_367) (fun _ h9 => h9) rfl (tyX4_ok 14 (by decide)) rfl rfl (Nat.le_of_ble_eq_true rfl) dX4_jumpsNear_70 (fun H locs hP hD hS => ?_)
        have hP : va_P D vwCl (kX4 cB cI mo mb ma w_zf w_nf w_hf w_cf w_sp b3 w_on w_wt w_ht w_bg w_cn w_al x8 w_ie w_ww w_th w_mm w_bs) H := hP
        have hD : va_D A (kX4 cB cI mo mb ma w_zf w_nf w_hf w_cf w_sp b3 w_on w_wt w_ht w_bg w_cn w_al x8 w_ie w_ww w_th w_mm w_bs) := hD
        refine lv_aload_n hx hb dX4_jumpsNear_73 rfl (lv_at hl 1 rfl) ?_
        refine lv_aload_n hx hb dX4_jumpsNear_74 rfl (lv_at hl 1 rfl) ?_
        refine va_get (D := D) (ci := 4) (v := .int b3) (C := RX4) (T := TX4) (N := 18) hx hb hws inlX4 hown hK hP 0 rfl rfl 7 (by decide) (hws _ mw_370) (fun _ h9 => h9) rfl dX4_jumpsNear_75 ?_
        refine lv_iload_n hx hb dX4_jumpsNear_78 rfl (lv_at hl 0 rfl) ?_
        refine lv_i2b (v := r6.toInt8.toInt32) hx hb dX4_jumpsNear_79 rfl ?_
        refine lv_iadd hx hb dX4_jumpsNear_80 ?_
        refine lv_ldc (v := 65535) hx hb hown (hws _ mw_61) dX4_jumpsNear_81 ?_
        refine lv_iand hx hb dX4_jumpsNear_83 ?_
        refine lv_topi (fun x9 ex9 => ?_)
        have hf := hf.trans (kE1 ex9)
        refine va_put (D := D) (ci := 4) (v := .int x9) (ty := .int) (C := RX4) (T := TX4) (N := 18) hx hb hws inlX4 tyX4 tyX4_ok nmX4 hown hK hP hD hS 0 rfl rfl 7 (by decide) (hws _ mw_370) (fun _ h9 => h9) rfl (tyX4_ok 7 (by decide)) rfl rfl (Nat.le_of_ble_eq_true rfl) dX4_jumpsNear_84 (fun H locs hP hD hS => ?_)
        have hP : va_P D vwCl (kX4 cB cI mo mb ma w_zf w_nf w_hf w_cf w_sp x9 w_on w_wt w_ht w_bg w_cn w_al x8 w_ie w_ww w_th w_mm w_bs) H := hP
        have hD : va_D A (kX4 cB cI mo mb ma w_zf w_nf w_hf w_cf w_sp x9 w_on w_wt w_ht w_bg w_cn w_al x8 w_ie w_ww w_th w_mm w_bs) := hD
        rw [← hQ]
        exact W.vret hx hb hr (fun t ht hW => ⟨⟨(x9, w_cn, x8, w_mm), rfl, hf.symm, by rw [ht]; exact hP, va_K.moved hW.alike hK, hD⟩, hS.F ht⟩) hS.2.2 dX4_jumpsNear_87
      · have hf := hf.trans (kf_eq c7)
        refine lv_aload_n hx hb dX4_jumpsNear_53 rfl (lv_at hl 1 rfl) ?_
        refine lv_iload_n hx hb dX4_jumpsNear_54 rfl (lv_at hl 2 rfl) ?_
        refine lv_iconst (v := 4) hx hb dX4_jumpsNear_55 (by decide) ?_
        refine lv_isub hx hb dX4_jumpsNear_56 ?_
        refine kc_Vi (wr := []) (As := [.int (a1 - (4 : Int32))]) (rest := []) (fun _ => (kX4 cB cI mo mb ma w_zf w_nf w_hf w_cf w_sp b3 w_on w_wt w_ht w_bg w_cn w_al b4 w_ie w_ww w_th w_mm w_bs)) ⟨hx, hb, hml, hown, hws⟩ hK hP hD hS hA hT (c_X4_holds l D cB cI mo mb ma H.size w_zf w_nf w_hf w_cf w_sp b3 w_on w_wt w_ht w_bg w_cn w_al b4 w_ie w_ww w_th w_mm w_bs (a1 - (4 : Int32))) (cwV 1 hws (gw_V mw_426 mw_427 mw_428 mw_5 mw_429) rfl rfl rfl hdX4_holds ⟨Nat.le_of_ble_eq_true rfl, Nat.le_of_ble_eq_true rfl⟩) [0, 1, 2] [] [0, 1] [0, 1, 2] rfl rfl rfl rfl (by decide) rfl (fun _ => rfl) rfl 0 rfl rfl rfl rfl hl.1 rfl (Nat.le_of_ble_eq_true rfl) dX4_jumpsNear_57 ⟨Nat.zero_le _, Nat.zero_le _⟩ (fun r11 _ H locs hw10 hP hD hS => ?_)
        obtain ⟨z12, rfl, hw10⟩ := hw10
        have hP : va_P D vwCl (kX4 cB cI mo mb ma w_zf w_nf w_hf w_cf w_sp b3 w_on w_wt w_ht w_bg w_cn w_al b4 w_ie w_ww w_th w_mm w_bs) H := hP
        have hD : va_D A (kX4 cB cI mo mb ma w_zf w_nf w_hf w_cf w_sp b3 w_on w_wt w_ht w_bg w_cn w_al b4 w_ie w_ww w_th w_mm w_bs) := hD
        have hf := hf.trans (kE1 hw10)
        refine lv_if_eq (tgt := 87) hx hb dX4_jumpsNear_60 (by decide) (fun c13 => ?_) (fun c13 => ?_)
        · have hf := hf.trans (kt_eq c13)
          rw [← hQ]
          exact W.vret hx hb hr (fun t ht hW => ⟨⟨(b3, w_cn, b4, w_mm), rfl, hf.symm, by rw [ht]; exact hP, va_K.moved hW.alike hK, hD⟩, hS.F ht⟩) hS.2.2 dX4_jumpsNear_87
        · have hf := hf.trans (kf_eq c13)
          refine lv_aload_n hx hb dX4_jumpsNear_63 rfl (lv_at hl 1 rfl) ?_
          refine lv_dup hx hb dX4_jumpsNear_64 rfl ?_
          refine va_get (D := D) (ci := 4) (v := .int b4) (C := RX4) (T := TX4) (N := 18) hx hb hws inlX4 hown hK hP 0 rfl rfl 14 (by decide) (hws _ mw_367) (fun _ h9 => h9) rfl dX4_jumpsNear_65 ?_
          refine lv_iconst (v := 1) hx hb dX4_jumpsNear_68 (by decide) ?_
          refine lv_iadd hx hb dX4_jumpsNear_69 ?_
          refine lv_topi (fun x14 ex14 => ?_)
          have hf := hf.trans (kE1 ex14)
          refine va_put (D := D) (ci := 4) (v := .int x14) (ty := .int) (C := RX4) (T := TX4) (N := 18) hx hb hws inlX4 tyX4 tyX4_ok nmX4 hown hK hP hD hS 0 rfl rfl 14 (by decide) (hws _ mw_367) (fun _ h9 => h9) rfl (tyX4_ok 14 (by decide)) rfl rfl (Nat.le_of_ble_eq_true rfl) dX4_jumpsNear_70 (fun H locs hP hD hS => ?_)
          have hP : va_P D vwCl (kX4 cB cI mo mb ma w_zf w_nf w_hf w_cf w_sp b3 w_on w_wt w_ht w_bg w_cn w_al x14 w_ie w_ww w_th w_mm w_bs) H := hP
          have hD : va_D A (kX4 cB cI mo mb ma w_zf w_nf w_hf w_cf w_sp b3 w_on w_wt w_ht w_bg w_cn w_al x14 w_ie w_ww w_th w_mm w_bs) := hD
          refine lv_aload_n hx hb dX4_jumpsNear_73 rfl (lv_at hl 1 rfl) ?_
          refine lv_aload_n hx hb dX4_jumpsNear_74 rfl (lv_at hl 1 rfl) ?_
          refine va_get (D := D) (ci := 4) (v := .int b3) (C := RX4) (T := TX4) (N := 18) hx hb hws inlX4 hown hK hP 0 rfl rfl 7 (by decide) (hws _ mw_370) (fun _ h9 => h9) rfl dX4_jumpsNear_75 ?_
          refine lv_iload_n hx hb dX4_jumpsNear_78 rfl (lv_at hl 0 rfl) ?_
          refine lv_i2b (v := r6.toInt8.toInt32) hx hb dX4_jumpsNear_79 rfl ?_
          refine lv_iadd hx hb dX4_jumpsNear_80 ?_
          refine lv_ldc (v := 65535) hx hb hown (hws _ mw_61) dX4_jumpsNear_81 ?_
          refine lv_iand hx hb dX4_jumpsNear_83 ?_
          refine lv_topi (fun x15 ex15 => ?_)
          have hf := hf.trans (kE1 ex15)
          refine va_put (D := D) (ci := 4) (v := .int x15) (ty := .int) (C := RX4) (T := TX4) (N := 18) hx hb hws inlX4 tyX4 tyX4_ok nmX4 hown hK hP hD hS 0 rfl rfl 7 (by decide) (hws _ mw_370) (fun _ h9 => h9) rfl (tyX4_ok 7 (by decide)) rfl rfl (Nat.le_of_ble_eq_true rfl) dX4_jumpsNear_84 (fun H locs hP hD hS => ?_)
          have hP : va_P D vwCl (kX4 cB cI mo mb ma w_zf w_nf w_hf w_cf w_sp x15 w_on w_wt w_ht w_bg w_cn w_al x14 w_ie w_ww w_th w_mm w_bs) H := hP
          have hD : va_D A (kX4 cB cI mo mb ma w_zf w_nf w_hf w_cf w_sp x15 w_on w_wt w_ht w_bg w_cn w_al x14 w_ie w_ww w_th w_mm w_bs) := hD
          rw [← hQ]
          exact W.vret hx hb hr (fun t ht hW => ⟨⟨(x15, w_cn, x14, w_mm), rfl, hf.symm, by rw [ht]; exact hP, va_K.moved hW.alike hK, hD⟩, hS.F ht⟩) hS.2.2 dX4_jumpsNear_87
    · have hf := hf.trans (kt_eq c2)
      refine lv_aload_n hx hb dX4_jumpsNear_10 rfl (lv_at hl 0 rfl) ?_
      refine kc_Vi (wr := []) (As := []) (rest := []) (fun u9 => (kX4 cB cI mo mb ma w_zf w_nf w_hf w_cf w_sp (u9.1) w_on w_wt w_ht w_bg w_cn w_al (u9.2) w_ie w_ww w_th w_mm w_bs)) ⟨hx, hb, hml, hown, hws⟩ hK hP hD hS hA hT (c_X4_fetchWord l D cB cI mo mb ma H.size w_zf w_nf w_hf w_cf w_sp w_pc w_on w_wt w_ht w_bg w_cn w_al w_cl w_ie w_ww w_th w_mm w_bs ) (cwV 0 hws (gw_V mw_418 mw_419 mw_420 mw_5 mw_421) rfl rfl rfl hdX4_fetchWord ⟨Nat.le_of_ble_eq_true rfl, Nat.le_of_ble_eq_true rfl⟩) [0, 1, 2] [] [0, 1] [0, 1, 2] rfl rfl rfl rfl (by decide) rfl (fun _ => rfl) rfl 0 rfl rfl rfl rfl hl.1 rfl (Nat.le_of_ble_eq_true rfl) dX4_jumpsNear_11 ⟨Nat.zero_le _, Nat.zero_le _⟩ (fun r19 u9 H locs hw18 hP hD hS => ?_)
      obtain ⟨b16, b17⟩ := u9
      have hP : va_P D vwCl (kX4 cB cI mo mb ma w_zf w_nf w_hf w_cf w_sp b16 w_on w_wt w_ht w_bg w_cn w_al b17 w_ie w_ww w_th w_mm w_bs) H := hP
      have hD : va_D A (kX4 cB cI mo mb ma w_zf w_nf w_hf w_cf w_sp b16 w_on w_wt w_ht w_bg w_cn w_al b17 w_ie w_ww w_th w_mm w_bs) := hD
      have hf := hf.trans (kE3 hw18)
      refine lv_istore_n (lv' := [(2, .int r19), (0, .ref mo), (1, .int a1)]) hx hb dX4_jumpsNear_14 rfl hl (by decide) rfl (fun ls hl => ?_)
      refine lv_aload_n hx hb dX4_jumpsNear_15 rfl (lv_at hl 1 rfl) ?_
      refine lv_iload_n hx hb dX4_jumpsNear_16 rfl (lv_at hl 0 rfl) ?_
      refine lv_aload_n hx hb dX4_jumpsNear_17 rfl (lv_at hl 1 rfl) ?_
      refine va_get (D := D) (ci := 4) (v := .int w_sp) (C := RX4) (T := TX4) (N := 18) hx hb hws inlX4 hown hK hP 0 rfl rfl 6 (by decide) (hws _ mw_382) (fun _ h9 => h9) rfl dX4_jumpsNear_18 ?_
      refine lv_sipush (v := 255) hx hb dX4_jumpsNear_21 (by decide) ?_
      refine lv_iand hx hb dX4_jumpsNear_24 ?_
      refine kc_Vv (wr := []) (As := [.int r19, .int (w_sp &&& (255 : Int32))]) (rest := []) (fun u9 => (kX4 cB cI mo mb ma w_zf w_nf w_hf w_cf w_sp b16 w_on w_wt w_ht w_bg (u9.1) w_al (u9.2.1) w_ie w_ww w_th (u9.2.2) w_bs)) ⟨hx, hb, hml, hown, hws⟩ hK hP hD hS hA hT (c_X4_writes l D cB cI mo mb ma H.size w_zf w_nf w_hf w_cf w_sp b16 w_on w_wt w_ht w_bg w_cn w_al b17 w_ie w_ww w_th w_mm w_bs r19 (w_sp &&& (255 : Int32))) (cwV 2 hws (gw_V mw_383 mw_384 mw_385 mw_5 mw_386) rfl rfl rfl hdX4_writes ⟨Nat.le_of_ble_eq_true rfl, Nat.le_of_ble_eq_true rfl⟩) [0, 1, 2] [] [0, 1] [0, 1, 2] rfl rfl rfl rfl (by decide) rfl (fun _ => rfl) rfl 0 rfl rfl rfl rfl hl.1 rfl (Nat.le_of_ble_eq_true rfl) dX4_jumpsNear_25 ⟨Nat.zero_le _, Nat.zero_le _⟩ (fun u9 H locs hw23 hP hD hS => ?_)
      obtain ⟨b20, b21, b22⟩ := u9
      have hP : va_P D vwCl (kX4 cB cI mo mb ma w_zf w_nf w_hf w_cf w_sp b16 w_on w_wt w_ht w_bg b20 w_al b21 w_ie w_ww w_th b22 w_bs) H := hP
      have hD : va_D A (kX4 cB cI mo mb ma w_zf w_nf w_hf w_cf w_sp b16 w_on w_wt w_ht w_bg b20 w_al b21 w_ie w_ww w_th b22 w_bs) := hD
      have hf := hf.trans (kE3 hw23)
      refine lv_aload_n hx hb dX4_jumpsNear_28 rfl (lv_at hl 1 rfl) ?_
      refine lv_iload_n hx hb dX4_jumpsNear_29 rfl (lv_at hl 0 rfl) ?_
      refine lv_iconst (v := 1) hx hb dX4_jumpsNear_30 (by decide) ?_
      refine lv_iadd hx hb dX4_jumpsNear_31 ?_
      refine lv_aload_n hx hb dX4_jumpsNear_32 rfl (lv_at hl 1 rfl) ?_
      refine va_get (D := D) (ci := 4) (v := .int w_sp) (C := RX4) (T := TX4) (N := 18) hx hb hws inlX4 hown hK hP 0 rfl rfl 6 (by decide) (hws _ mw_382) (fun _ h9 => h9) rfl dX4_jumpsNear_33 ?_
      refine lv_bipush (v := 8) hx hb dX4_jumpsNear_36 (by decide) ?_
      refine lv_ishr hx hb dX4_jumpsNear_38 ?_
      refine kc_Vv (wr := []) (As := [.int (r19 + (1 : Int32)), .int (w_sp >>> ((8 : Int32) &&& (31 : Int32)))]) (rest := []) (fun u9 => (kX4 cB cI mo mb ma w_zf w_nf w_hf w_cf w_sp b16 w_on w_wt w_ht w_bg (u9.1) w_al (u9.2.1) w_ie w_ww w_th (u9.2.2) w_bs)) ⟨hx, hb, hml, hown, hws⟩ hK hP hD hS hA hT (c_X4_writes l D cB cI mo mb ma H.size w_zf w_nf w_hf w_cf w_sp b16 w_on w_wt w_ht w_bg b20 w_al b21 w_ie w_ww w_th b22 w_bs (r19 + (1 : Int32)) (w_sp >>> ((8 : Int32) &&& (31 : Int32)))) (cwV 2 hws (gw_V mw_383 mw_384 mw_385 mw_5 mw_386) rfl rfl rfl hdX4_writes ⟨Nat.le_of_ble_eq_true rfl, Nat.le_of_ble_eq_true rfl⟩) [0, 1, 2] [] [0, 1] [0, 1, 2] rfl rfl rfl rfl (by decide) rfl (fun _ => rfl) rfl 0 rfl rfl rfl rfl hl.1 rfl (Nat.le_of_ble_eq_true rfl) dX4_jumpsNear_39 ⟨Nat.zero_le _, Nat.zero_le _⟩ (fun u9 H locs hw27 hP hD hS => ?_)
      obtain ⟨b24, b25, b26⟩ := u9
      have hP : va_P D vwCl (kX4 cB cI mo mb ma w_zf w_nf w_hf w_cf w_sp b16 w_on w_wt w_ht w_bg b24 w_al b25 w_ie w_ww w_th b26 w_bs) H := hP
      have hD : va_D A (kX4 cB cI mo mb ma w_zf w_nf w_hf w_cf w_sp b16 w_on w_wt w_ht w_bg b24 w_al b25 w_ie w_ww w_th b26 w_bs) := hD
      have hf := hf.trans (kE3 hw27)
      rw [← hQ]
      exact W.vret hx hb hr (fun t ht hW => ⟨⟨(b16, b24, b25, b26), rfl, hf.symm, by rw [ht]; exact hP, va_K.moved hW.alike hK, hD⟩, hS.F ht⟩) hS.2.2 dX4_jumpsNear_42
  · have hf := hf.trans (kt_eq c1)
    rw [← hQ]
    exact W.vret hx hb hr (fun t ht hW => ⟨⟨(w_pc, w_cn, w_cl, w_mm), rfl, hf.symm, by rw [ht]; exact hP, va_K.moved hW.alike hK, hD⟩, hS.F ht⟩) hS.2.2 dX4_jumpsNear_4
def fX4_wide (w_sp : Int32) (w_bs : Nat → Int32) (a1 : Int32) : Int32 := (kIf (kEq a1 (3 : Int32)) w_sp (kU1 (fX4_pair w_bs a1) (fun (r3 : Int32) => r3)))
def rmX4_wide : Room := { frames := 1, cells := 0, slots := 0, locals := 21 }
def wwX4_wide : List Cond := Cond.code yX4_wide cX4_wide 2 (some .int) :: wsL_law
theorem hdX4_wide : yX4_wide.cls = RX4 ∧ yX4_wide.cls ≠ "java/lang/invoke/MethodHandle" ∧ yX4_wide.cls ≠ "java/lang/invoke/VarHandle" ∧ (parseMethodDescriptor yX4_wide.desc).map (fun d => d.parameters.length) = some 1 := by decide +kernel
set_option maxHeartbeats 4000000 in
set_option maxRecDepth 100000 in
theorem c_X4_wide (l : Launch) (D : va_G) (cB : ClassId) (cI : ClassId) (mo mb ma sz : Nat) (w_zf : Bool) (w_nf : Bool) (w_hf : Bool) (w_cf : Bool) (w_sp : Int32) (w_pc : Int32) (w_on : Bool) (w_wt : Bool) (w_ht : Bool) (w_bg : Bool) (w_cn : Int32) (w_al : Int32) (w_cl : Int32) (w_ie : Bool) (w_ww : Bool) (w_th : Int32) (w_mm : Nat → Int32) (w_bs : Nat → Int32) (a1 : Int32) (hpre1 : vp_in a1 4) : Met l yX4_wide wwX4_wide rmX4_wide (va_Pc [.ref mo, .int a1] (kp D (kX4 cB cI mo mb ma w_zf w_nf w_hf w_cf w_sp w_pc w_on w_wt w_ht w_bg w_cn w_al w_cl w_ie w_ww w_th w_mm w_bs) [(cB, .byte), (cI, .int)] sz)) (va_Qi (fun (r : Int32) (_ : Unit) => r = fX4_wide w_sp w_bs a1) (fun _ t => kq D (kX4 cB cI mo mb ma w_zf w_nf w_hf w_cf w_sp w_pc w_on w_wt w_ht w_bg w_cn w_al w_cl w_ie w_ww w_th w_mm w_bs) [(cB, .byte), (cI, .int)] (va_A (kX4 cB cI mo mb ma w_zf w_nf w_hf w_cf w_sp w_pc w_on w_wt w_ht w_bg w_cn w_al w_cl w_ie w_ww w_th w_mm w_bs) sz) t) (va_A (kX4 cB cI mo mb ma w_zf w_nf w_hf w_cf w_sp w_pc w_on w_wt w_ht w_bg w_cn w_al w_cl w_ie w_ww w_th w_mm w_bs) sz)) 0 0 (va_A (kX4 cB cI mo mb ma w_zf w_nf w_hf w_cf w_sp w_pc w_on w_wt w_ht w_bg w_cn w_al w_cl w_ie w_ww w_th w_mm w_bs) sz) := by
  refine Met.ofW (cc := cX4_wide) (maxL := 2) (ret := (some .int)) (by decide) rfl ?_
  intro p e s m args below meth c s₁ B hml hv
  obtain ⟨rfl, hsz, hP, hK, hD0, hT⟩ := hv
  have hx := B.exec
  have hb := B.bytes
  have hr := B.returns
  have hts := atoms_spec (ws := wwX4_wide) B.pre
  have hws : ∀ w ∈ wsL_law, w.before _ s = true := fun w h => hts w (List.mem_cons_of_mem _ h)
  have hown : s.vm.findClass RX4 = some m.cls := findClass_of_methodNamed B.named
  have hlocks := B.notSynchronized
  subst hsz
  have hD := hD0.self (sz := s.heap.size)
  generalize hAe : va_A (kX4 cB cI mo mb ma w_zf w_nf w_hf w_cf w_sp w_pc w_on w_wt w_ht w_bg w_cn w_al w_cl w_ie w_ww w_th w_mm w_bs) s.heap.size = A at hD hT ⊢
  have hA : ∀ q : Nat, s.heap.size ≤ q → A q := fun q h => by rw [← hAe]; exact Or.inr h
  have hS : va_S A s.heap s.heap [] := va_S.rf
  have hl := lv_entry ([.ref mo, .int a1]) (n := 2) (Nat.le_of_ble_eq_true rfl)
  rw [lg_entry_eq]
  generalize (lg_sl ([.ref mo, .int a1]) ++ List.replicate (2 - (lg_sl ([.ref mo, .int a1])).length) Slot.unset).toArray = ls at hl ⊢
  have hl : lv_has ls 2 [(0, .ref mo), (1, .int a1)] := hl
  generalize hQ : MQ _ _ _ _ _ _ _ = Q
  obtain ⟨H, hHe⟩ : ∃ H : Heap, H = s.heap := ⟨_, rfl⟩
  obtain ⟨locs, hle⟩ : ∃ L : List Loc, L = [] := ⟨_, rfl⟩
  have hP : va_P D vwCl (kX4 cB cI mo mb ma w_zf w_nf w_hf w_cf w_sp w_pc w_on w_wt w_ht w_bg w_cn w_al w_cl w_ie w_ww w_th w_mm w_bs) H := by rw [hHe]; exact hP
  have hS : va_S A s.heap H locs := by rw [hHe, hle]; exact hS
  refine kw_start hHe.symm hle.symm ?_
  have hf : fX4_wide w_sp w_bs a1 = fX4_wide w_sp w_bs a1 := rfl
  refine lv_iload_n hx hb dX4_wide_0 rfl (lv_at hl 1 rfl) ?_
  refine lv_iconst (v := 3) hx hb dX4_wide_1 (by decide) ?_
  refine lv_icmp_ne (tgt := 12) hx hb dX4_wide_2 (by decide) (fun c1 => ?_) (fun c1 => ?_)
  · have hf := hf.trans (kf_eq c1)
    refine lv_aload_n hx hb dX4_wide_12 rfl (lv_at hl 0 rfl) ?_
    refine lv_iload_n hx hb dX4_wide_13 rfl (lv_at hl 1 rfl) ?_
    refine kc_Vi (wr := []) (As := [.int a1]) (rest := []) (fun _ => (kX4 cB cI mo mb ma w_zf w_nf w_hf w_cf w_sp w_pc w_on w_wt w_ht w_bg w_cn w_al w_cl w_ie w_ww w_th w_mm w_bs)) ⟨hx, hb, hml, hown, hws⟩ hK hP hD hS hA hT (c_X4_pair l D cB cI mo mb ma H.size w_zf w_nf w_hf w_cf w_sp w_pc w_on w_wt w_ht w_bg w_cn w_al w_cl w_ie w_ww w_th w_mm w_bs a1 hpre1) (cwV 1 hws (gw_V mw_444 mw_445 mw_446 mw_5 mw_447) rfl rfl rfl hdX4_pair ⟨Nat.le_of_ble_eq_true rfl, Nat.le_of_ble_eq_true rfl⟩) [0, 1, 2] [] [0, 1] [0, 1, 2] rfl rfl rfl rfl (by decide) rfl (fun _ => rfl) rfl 0 rfl rfl rfl rfl hl.1 rfl (Nat.le_of_ble_eq_true rfl) dX4_wide_14 ⟨Nat.zero_le _, Nat.zero_le _⟩ (fun r3 _ H locs hw2 hP hD hS => ?_)
    have hP : va_P D vwCl (kX4 cB cI mo mb ma w_zf w_nf w_hf w_cf w_sp w_pc w_on w_wt w_ht w_bg w_cn w_al w_cl w_ie w_ww w_th w_mm w_bs) H := hP
    have hD : va_D A (kX4 cB cI mo mb ma w_zf w_nf w_hf w_cf w_sp w_pc w_on w_wt w_ht w_bg w_cn w_al w_cl w_ie w_ww w_th w_mm w_bs) := hD
    have hf := hf.trans (kE1 hw2)
    rw [← hQ]
    exact W.iret (v := r3) hx hb hr (fun t ht hW => ⟨⟨r3, (), rfl, hf.symm, by rw [ht]; exact hP, va_K.moved hW.alike hK, hD⟩, hS.F ht⟩) hS.2.2 dX4_wide_17
  · have hf := hf.trans (kt_eq c1)
    refine lv_aload_n hx hb dX4_wide_5 rfl (lv_at hl 0 rfl) ?_
    refine va_get (D := D) (ci := 4) (v := .int w_sp) (C := RX4) (T := TX4) (N := 18) hx hb hws inlX4 hown hK hP 0 rfl rfl 6 (by decide) (hws _ mw_382) (fun _ h9 => h9) rfl dX4_wide_6 ?_
    refine lv_goto (tgt := 17) hx hb dX4_wide_9 (by decide) ?_
    rw [← hQ]
    exact W.iret (v := w_sp) hx hb hr (fun t ht hW => ⟨⟨w_sp, (), rfl, hf.symm, by rw [ht]; exact hP, va_K.moved hW.alike hK, hD⟩, hS.F ht⟩) hS.2.2 dX4_wide_17
def fX4_addsPair (w_zf : Bool) (w_nf : Bool) (w_hf : Bool) (w_cf : Bool) (w_sp : Int32) (w_cl : Int32) (w_bs : Nat → Int32) (a1 : Int32) : Bool × Bool × Bool × Bool × Int32 × (Nat → Int32) := (kU1 ((w_cl + (1 : Int32))) (fun (x1 : Int32) => (kU1 (fX4_hl w_bs) (fun (r3 : Int32) => (kU1 (fX4_wide w_sp w_bs a1) (fun (r5 : Int32) => (kU1 (((kIf (kLe ((r3 &&& (4095 : Int32)) + (r5 &&& (4095 : Int32))) (4095 : Int32)) false true) : Bool)) (fun (z7 : Bool) => (kU1 (((kIf (kLe (r3 + r5) (65535 : Int32)) false true) : Bool)) (fun (z10 : Bool) => (kU4 (fX4_flagsAre w_zf w_nf w_hf w_cf w_zf false z7 z10) (fun (b12 : Bool) (b13 : Bool) (b14 : Bool) (b15 : Bool) => (kU1 (fX4_setPair w_bs (2 : Int32) ((r3 + r5) &&& (65535 : Int32))) (fun (b17 : Nat → Int32) => (b12, b13, b14, b15, x1, b17)))))))))))))))
def rmX4_addsPair : Room := { frames := 2, cells := 0, slots := 0, locals := 42 }
def wwX4_addsPair : List Cond := Cond.code yX4_addsPair cX4_addsPair 4 none :: wsL_law
theorem hdX4_addsPair : yX4_addsPair.cls = RX4 ∧ yX4_addsPair.cls ≠ "java/lang/invoke/MethodHandle" ∧ yX4_addsPair.cls ≠ "java/lang/invoke/VarHandle" ∧ (parseMethodDescriptor yX4_addsPair.desc).map (fun d => d.parameters.length) = some 1 := by decide +kernel
set_option maxHeartbeats 4000000 in
set_option maxRecDepth 100000 in
theorem c_X4_addsPair (l : Launch) (D : va_G) (cB : ClassId) (cI : ClassId) (mo mb ma sz : Nat) (w_zf : Bool) (w_nf : Bool) (w_hf : Bool) (w_cf : Bool) (w_sp : Int32) (w_pc : Int32) (w_on : Bool) (w_wt : Bool) (w_ht : Bool) (w_bg : Bool) (w_cn : Int32) (w_al : Int32) (w_cl : Int32) (w_ie : Bool) (w_ww : Bool) (w_th : Int32) (w_mm : Nat → Int32) (w_bs : Nat → Int32) (a1 : Int32) (hpre1 : vp_in a1 4) : Met l yX4_addsPair wwX4_addsPair rmX4_addsPair (va_Pc [.ref mo, .int a1] (kp D (kX4 cB cI mo mb ma w_zf w_nf w_hf w_cf w_sp w_pc w_on w_wt w_ht w_bg w_cn w_al w_cl w_ie w_ww w_th w_mm w_bs) [(cB, .byte), (cI, .int)] sz)) (va_Qv (fun (u9 : Bool × Bool × Bool × Bool × Int32 × (Nat → Int32)) => u9 = fX4_addsPair w_zf w_nf w_hf w_cf w_sp w_cl w_bs a1) (fun u9 t => kq D (kX4 cB cI mo mb ma (u9.1) (u9.2.1) (u9.2.2.1) (u9.2.2.2.1) w_sp w_pc w_on w_wt w_ht w_bg w_cn w_al (u9.2.2.2.2.1) w_ie w_ww w_th w_mm (u9.2.2.2.2.2)) [(cB, .byte), (cI, .int)] (va_A (kX4 cB cI mo mb ma w_zf w_nf w_hf w_cf w_sp w_pc w_on w_wt w_ht w_bg w_cn w_al w_cl w_ie w_ww w_th w_mm w_bs) sz) t) (va_A (kX4 cB cI mo mb ma w_zf w_nf w_hf w_cf w_sp w_pc w_on w_wt w_ht w_bg w_cn w_al w_cl w_ie w_ww w_th w_mm w_bs) sz)) 0 0 (va_A (kX4 cB cI mo mb ma w_zf w_nf w_hf w_cf w_sp w_pc w_on w_wt w_ht w_bg w_cn w_al w_cl w_ie w_ww w_th w_mm w_bs) sz) := by
  refine Met.ofW (cc := cX4_addsPair) (maxL := 4) (ret := none) (by decide) rfl ?_
  intro p e s m args below meth c s₁ B hml hv
  obtain ⟨rfl, hsz, hP, hK, hD0, hT⟩ := hv
  have hx := B.exec
  have hb := B.bytes
  have hr := B.returns
  have hts := atoms_spec (ws := wwX4_addsPair) B.pre
  have hws : ∀ w ∈ wsL_law, w.before _ s = true := fun w h => hts w (List.mem_cons_of_mem _ h)
  have hown : s.vm.findClass RX4 = some m.cls := findClass_of_methodNamed B.named
  have hlocks := B.notSynchronized
  subst hsz
  have hD := hD0.self (sz := s.heap.size)
  generalize hAe : va_A (kX4 cB cI mo mb ma w_zf w_nf w_hf w_cf w_sp w_pc w_on w_wt w_ht w_bg w_cn w_al w_cl w_ie w_ww w_th w_mm w_bs) s.heap.size = A at hD hT ⊢
  have hA : ∀ q : Nat, s.heap.size ≤ q → A q := fun q h => by rw [← hAe]; exact Or.inr h
  have hS : va_S A s.heap s.heap [] := va_S.rf
  have hl := lv_entry ([.ref mo, .int a1]) (n := 4) (Nat.le_of_ble_eq_true rfl)
  rw [lg_entry_eq]
  generalize (lg_sl ([.ref mo, .int a1]) ++ List.replicate (4 - (lg_sl ([.ref mo, .int a1])).length) Slot.unset).toArray = ls at hl ⊢
  have hl : lv_has ls 4 [(0, .ref mo), (1, .int a1)] := hl
  generalize hQ : MQ _ _ _ _ _ _ _ = Q
  obtain ⟨H, hHe⟩ : ∃ H : Heap, H = s.heap := ⟨_, rfl⟩
  obtain ⟨locs, hle⟩ : ∃ L : List Loc, L = [] := ⟨_, rfl⟩
  have hP : va_P D vwCl (kX4 cB cI mo mb ma w_zf w_nf w_hf w_cf w_sp w_pc w_on w_wt w_ht w_bg w_cn w_al w_cl w_ie w_ww w_th w_mm w_bs) H := by rw [hHe]; exact hP
  have hS : va_S A s.heap H locs := by rw [hHe, hle]; exact hS
  refine kw_start hHe.symm hle.symm ?_
  have hf : fX4_addsPair w_zf w_nf w_hf w_cf w_sp w_cl w_bs a1 = fX4_addsPair w_zf w_nf w_hf w_cf w_sp w_cl w_bs a1 := rfl
  refine lv_aload_n hx hb dX4_addsPair_0 rfl (lv_at hl 0 rfl) ?_
  refine lv_dup hx hb dX4_addsPair_1 rfl ?_
  refine va_get (D := D) (ci := 4) (v := .int w_cl) (C := RX4) (T := TX4) (N := 18) hx hb hws inlX4 hown hK hP 0 rfl rfl 14 (by decide) (hws _ mw_367) (fun _ h9 => h9) rfl dX4_addsPair_2 ?_
  refine lv_iconst (v := 1) hx hb dX4_addsPair_5 (by decide) ?_
  refine lv_iadd hx hb dX4_addsPair_6 ?_
  refine lv_topi (fun x1 ex1 => ?_)
  have hf := hf.trans (kE1 ex1)
  refine va_put (D := D) (ci := 4) (v := .int x1) (ty := .int) (C := RX4) (T := TX4) (N := 18) hx hb hws inlX4 tyX4 tyX4_ok nmX4 hown hK hP hD hS 0 rfl rfl 14 (by decide) (hws _ mw_367) (fun _ h9 => h9) rfl (tyX4_ok 14 (by decide)) rfl rfl (Nat.le_of_ble_eq_true rfl) dX4_addsPair_7 (fun H locs hP hD hS => ?_)
  have hP : va_P D vwCl (kX4 cB cI mo mb ma w_zf w_nf w_hf w_cf w_sp w_pc w_on w_wt w_ht w_bg w_cn w_al x1 w_ie w_ww w_th w_mm w_bs) H := hP
  have hD : va_D A (kX4 cB cI mo mb ma w_zf w_nf w_hf w_cf w_sp w_pc w_on w_wt w_ht w_bg w_cn w_al x1 w_ie w_ww w_th w_mm w_bs) := hD
  refine lv_aload_n hx hb dX4_addsPair_10 rfl (lv_at hl 0 rfl) ?_
  refine kc_Vi (wr := []) (As := []) (rest := []) (fun _ => (kX4 cB cI mo mb ma w_zf w_nf w_hf w_cf w_sp w_pc w_on w_wt w_ht w_bg w_cn w_al x1 w_ie w_ww w_th w_mm w_bs)) ⟨hx, hb, hml, hown, hws⟩ hK hP hD hS hA hT (c_X4_hl l D cB cI mo mb ma H.size w_zf w_nf w_hf w_cf w_sp w_pc w_on w_wt w_ht w_bg w_cn w_al x1 w_ie w_ww w_th w_mm w_bs ) (cwV 0 hws (gw_V mw_436 mw_437 mw_438 mw_5 mw_439) rfl rfl rfl hdX4_hl ⟨Nat.le_of_ble_eq_true rfl, Nat.le_of_ble_eq_true rfl⟩) [0, 1, 2] [] [0, 1] [0, 1, 2] rfl rfl rfl rfl (by decide) rfl (fun _ => rfl) rfl 0 rfl rfl rfl rfl hl.1 rfl (Nat.le_of_ble_eq_true rfl) dX4_addsPair_11 ⟨Nat.zero_le _, Nat.zero_le _⟩ (fun r3 _ H locs hw2 hP hD hS => ?_)
  have hP : va_P D vwCl (kX4 cB cI mo mb ma w_zf w_nf w_hf w_cf w_sp w_pc w_on w_wt w_ht w_bg w_cn w_al x1 w_ie w_ww w_th w_mm w_bs) H := hP
  have hD : va_D A (kX4 cB cI mo mb ma w_zf w_nf w_hf w_cf w_sp w_pc w_on w_wt w_ht w_bg w_cn w_al x1 w_ie w_ww w_th w_mm w_bs) := hD
  have hf := hf.trans (kE1 hw2)
  refine lv_istore_n (lv' := [(2, .int r3), (0, .ref mo), (1, .int a1)]) hx hb dX4_addsPair_14 rfl hl (by decide) rfl (fun ls hl => ?_)
  refine lv_aload_n hx hb dX4_addsPair_15 rfl (lv_at hl 1 rfl) ?_
  refine lv_iload_n hx hb dX4_addsPair_16 rfl (lv_at hl 2 rfl) ?_
  refine kc_Vi (wr := []) (As := [.int a1]) (rest := []) (fun _ => (kX4 cB cI mo mb ma w_zf w_nf w_hf w_cf w_sp w_pc w_on w_wt w_ht w_bg w_cn w_al x1 w_ie w_ww w_th w_mm w_bs)) ⟨hx, hb, hml, hown, hws⟩ hK hP hD hS hA hT (c_X4_wide l D cB cI mo mb ma H.size w_zf w_nf w_hf w_cf w_sp w_pc w_on w_wt w_ht w_bg w_cn w_al x1 w_ie w_ww w_th w_mm w_bs a1 hpre1) (cwV 1 hws (gw_V mw_440 mw_441 mw_442 mw_5 mw_443) rfl rfl rfl hdX4_wide ⟨Nat.le_of_ble_eq_true rfl, Nat.le_of_ble_eq_true rfl⟩) [0, 1, 2] [] [0, 1] [0, 1, 2] rfl rfl rfl rfl (by decide) rfl (fun _ => rfl) rfl 0 rfl rfl rfl rfl hl.1 rfl (Nat.le_of_ble_eq_true rfl) dX4_addsPair_17 ⟨Nat.zero_le _, Nat.zero_le _⟩ (fun r5 _ H locs hw4 hP hD hS => ?_)
  have hP : va_P D vwCl (kX4 cB cI mo mb ma w_zf w_nf w_hf w_cf w_sp w_pc w_on w_wt w_ht w_bg w_cn w_al x1 w_ie w_ww w_th w_mm w_bs) H := hP
  have hD : va_D A (kX4 cB cI mo mb ma w_zf w_nf w_hf w_cf w_sp w_pc w_on w_wt w_ht w_bg w_cn w_al x1 w_ie w_ww w_th w_mm w_bs) := hD
  have hf := hf.trans (kE1 hw4)
  refine lv_istore_n (lv' := [(3, .int r5), (2, .int r3), (0, .ref mo), (1, .int a1)]) hx hb dX4_addsPair_20 rfl hl (by decide) rfl (fun ls hl => ?_)
  refine lv_aload_n hx hb dX4_addsPair_21 rfl (lv_at hl 2 rfl) ?_
  refine lv_aload_n hx hb dX4_addsPair_22 rfl (lv_at hl 2 rfl) ?_
  refine va_get (D := D) (ci := 4) (v := .int (bI w_zf)) (C := RX4) (T := TX4) (N := 18) hx hb hws inlX4 hown hK hP 0 rfl rfl 2 (by decide) (hws _ mw_430) (fun _ h9 => h9) rfl dX4_addsPair_23 ?_
  refine lv_iconst (v := 0) hx hb dX4_addsPair_26 (by decide) ?_
  refine lv_iload_n hx hb dX4_addsPair_27 rfl (lv_at hl 1 rfl) ?_
  refine lv_sipush (v := 4095) hx hb dX4_addsPair_28 (by decide) ?_
  refine lv_iand hx hb dX4_addsPair_31 ?_
  refine lv_iload_n hx hb dX4_addsPair_32 rfl (lv_at hl 0 rfl) ?_
  refine lv_sipush (v := 4095) hx hb dX4_addsPair_33 (by decide) ?_
  refine lv_iand hx hb dX4_addsPair_36 ?_
  refine lv_iadd hx hb dX4_addsPair_37 ?_
  refine lv_sipush (v := 4095) hx hb dX4_addsPair_38 (by decide) ?_
  obtain ⟨TJ8, hTJ8⟩ : ∃ T9 : Bool, T9 = (kIf (kLe ((r3 &&& (4095 : Int32)) + (r5 &&& (4095 : Int32))) (4095 : Int32)) false true) := ⟨_, rfl⟩
  have J8 : ∀ (z7 : Bool), z7 = TJ8 → ∀ (H : Heap) (locs : List Loc) (ls : Array Slot), lv_has ls 4 [(3, .int r5), (2, .int r3), (0, .ref mo), (1, .int a1)] → va_P D vwCl (kX4 cB cI mo mb ma w_zf w_nf w_hf w_cf w_sp w_pc w_on w_wt w_ht w_bg w_cn w_al x1 w_ie w_ww w_th w_mm w_bs) H → va_D A (kX4 cB cI mo mb ma w_zf w_nf w_hf w_cf w_sp w_pc w_on w_wt w_ht w_bg w_cn w_al x1 w_ie w_ww w_th w_mm w_bs) → va_S A s.heap H locs → W p l e (headSpec wwX4_addsPair rmX4_addsPair).room s m ([.ref mo, .int a1] : List Value).toArray below meth c H locs 0 0 Q (F0 m 49 ls [.int (bI z7), .int (0 : Int32), .int (bI w_zf), .ref mo]) := by
    intro z7 eJ8 H locs ls hl hP hD hS
    have hf := hf.trans (kE1 (eJ8.trans hTJ8))
    refine lv_iload_n hx hb dX4_addsPair_49 rfl (lv_at hl 1 rfl) ?_
    refine lv_iload_n hx hb dX4_addsPair_50 rfl (lv_at hl 0 rfl) ?_
    refine lv_iadd hx hb dX4_addsPair_51 ?_
    refine lv_ldc (v := 65535) hx hb hown (hws _ mw_61) dX4_addsPair_52 ?_
    obtain ⟨TJ11, hTJ11⟩ : ∃ T9 : Bool, T9 = (kIf (kLe (r3 + r5) (65535 : Int32)) false true) := ⟨_, rfl⟩
    have J11 : ∀ (z10 : Bool), z10 = TJ11 → ∀ (H : Heap) (locs : List Loc) (ls : Array Slot), lv_has ls 4 [(3, .int r5), (2, .int r3), (0, .ref mo), (1, .int a1)] → va_P D vwCl (kX4 cB cI mo mb ma w_zf w_nf w_hf w_cf w_sp w_pc w_on w_wt w_ht w_bg w_cn w_al x1 w_ie w_ww w_th w_mm w_bs) H → va_D A (kX4 cB cI mo mb ma w_zf w_nf w_hf w_cf w_sp w_pc w_on w_wt w_ht w_bg w_cn w_al x1 w_ie w_ww w_th w_mm w_bs) → va_S A s.heap H locs → W p l e (headSpec wwX4_addsPair rmX4_addsPair).room s m ([.ref mo, .int a1] : List Value).toArray below meth c H locs 0 0 Q (F0 m 62 ls [.int (bI z10), .int (bI z7), .int (0 : Int32), .int (bI w_zf), .ref mo]) := by
      intro z10 eJ11 H locs ls hl hP hD hS
      have hf := hf.trans (kE1 (eJ11.trans hTJ11))
      refine kc_Vv (wr := []) (As := [.int (bI w_zf), .int (bI false), .int (bI z7), .int (bI z10)]) (rest := []) (fun u9 => (kX4 cB cI mo mb ma (u9.1) (u9.2.1) (u9.2.2.1) (u9.2.2.2) w_sp w_pc w_on w_wt w_ht w_bg w_cn w_al x1 w_ie w_ww w_th w_mm w_bs)) ⟨hx, hb, hml, hown, hws⟩ hK hP hD hS hA hT (c_X4_flagsAre l D cB cI mo mb ma H.size w_zf w_nf w_hf w_cf w_sp w_pc w_on w_wt w_ht w_bg w_cn w_al x1 w_ie w_ww w_th w_mm w_bs w_zf false z7 z10) (cwV 4 hws (gw_V mw_448 mw_449 mw_450 mw_5 mw_451) rfl rfl rfl hdX4_flagsAre ⟨Nat.le_of_ble_eq_true rfl, Nat.le_of_ble_eq_true rfl⟩) [0, 1, 2] [] [0, 1] [0, 1, 2] rfl rfl rfl rfl (by decide) rfl (fun _ => rfl) rfl 0 rfl rfl rfl rfl hl.1 rfl (Nat.le_of_ble_eq_true rfl) dX4_addsPair_62 ⟨Nat.zero_le _, Nat.zero_le _⟩ (fun u9 H locs hw16 hP hD hS => ?_)
      obtain ⟨b12, b13, b14, b15⟩ := u9
      have hP : va_P D vwCl (kX4 cB cI mo mb ma b12 b13 b14 b15 w_sp w_pc w_on w_wt w_ht w_bg w_cn w_al x1 w_ie w_ww w_th w_mm w_bs) H := hP
      have hD : va_D A (kX4 cB cI mo mb ma b12 b13 b14 b15 w_sp w_pc w_on w_wt w_ht w_bg w_cn w_al x1 w_ie w_ww w_th w_mm w_bs) := hD
      have hf := hf.trans (kE4 hw16)
      refine lv_aload_n hx hb dX4_addsPair_65 rfl (lv_at hl 2 rfl) ?_
      refine lv_iconst (v := 2) hx hb dX4_addsPair_66 (by decide) ?_
      refine lv_iload_n hx hb dX4_addsPair_67 rfl (lv_at hl 1 rfl) ?_
      refine lv_iload_n hx hb dX4_addsPair_68 rfl (lv_at hl 0 rfl) ?_
      refine lv_iadd hx hb dX4_addsPair_69 ?_
      refine lv_ldc (v := 65535) hx hb hown (hws _ mw_61) dX4_addsPair_70 ?_
      refine lv_iand hx hb dX4_addsPair_72 ?_
      refine kc_Vv (wr := []) (As := [.int (2 : Int32), .int ((r3 + r5) &&& (65535 : Int32))]) (rest := []) (fun u9 => (kX4 cB cI mo mb ma b12 b13 b14 b15 w_sp w_pc w_on w_wt w_ht w_bg w_cn w_al x1 w_ie w_ww w_th w_mm u9)) ⟨hx, hb, hml, hown, hws⟩ hK hP hD hS hA hT (c_X4_setPair l D cB cI mo mb ma H.size b12 b13 b14 b15 w_sp w_pc w_on w_wt w_ht w_bg w_cn w_al x1 w_ie w_ww w_th w_mm w_bs (2 : Int32) ((r3 + r5) &&& (65535 : Int32)) (by unfold vp_in; decide)) (cwV 2 hws (gw_V mw_454 mw_455 mw_456 mw_5 mw_457) rfl rfl rfl hdX4_setPair ⟨Nat.le_of_ble_eq_true rfl, Nat.le_of_ble_eq_true rfl⟩) [0, 1, 2] [] [0, 1] [0, 1, 2] rfl rfl rfl rfl (by decide) rfl (fun _ => rfl) rfl 0 rfl rfl rfl rfl hl.1 rfl (Nat.le_of_ble_eq_true rfl) dX4_addsPair_73 ⟨Nat.zero_le _, Nat.zero_le _⟩ (fun b17 H locs hw18 hP hD hS => ?_)
      have hP : va_P D vwCl (kX4 cB cI mo mb ma b12 b13 b14 b15 w_sp w_pc w_on w_wt w_ht w_bg w_cn w_al x1 w_ie w_ww w_th w_mm b17) H := hP
      have hD : va_D A (kX4 cB cI mo mb ma b12 b13 b14 b15 w_sp w_pc w_on w_wt w_ht w_bg w_cn w_al x1 w_ie w_ww w_th w_mm b17) := hD
      have hf := hf.trans (kE1 hw18)
      rw [← hQ]
      exact W.vret hx hb hr (fun t ht hW => ⟨⟨(b12, b13, b14, b15, x1, b17), rfl, hf.symm, by rw [ht]; exact hP, va_K.moved hW.alike hK, hD⟩, hS.F ht⟩) hS.2.2 dX4_addsPair_76
    have hf := hTJ11
    refine lv_icmp_le (tgt := 61) hx hb dX4_addsPair_54 (by decide) (fun c9 => ?_) (fun c9 => ?_)
    · have hf := hf.trans (kt_le c9)
      refine lv_iconst (v := 0) hx hb dX4_addsPair_61 (by decide) ?_
      exact J11 false hf.symm H locs ls (lv_sub hl [0, 1, 2, 3] rfl) hP hD hS
    · have hf := hf.trans (kf_le c9)
      refine lv_iconst (v := 1) hx hb dX4_addsPair_57 (by decide) ?_
      refine lv_goto (tgt := 62) hx hb dX4_addsPair_58 (by decide) ?_
      exact J11 true hf.symm H locs ls (lv_sub hl [0, 1, 2, 3] rfl) hP hD hS
  have hf := hTJ8
  refine lv_icmp_le (tgt := 48) hx hb dX4_addsPair_41 (by decide) (fun c6 => ?_) (fun c6 => ?_)
  · have hf := hf.trans (kt_le c6)
    refine lv_iconst (v := 0) hx hb dX4_addsPair_48 (by decide) ?_
    exact J8 false hf.symm H locs ls (lv_sub hl [0, 1, 2, 3] rfl) hP hD hS
  · have hf := hf.trans (kf_le c6)
    refine lv_iconst (v := 1) hx hb dX4_addsPair_44 (by decide) ?_
    refine lv_goto (tgt := 49) hx hb dX4_addsPair_45 (by decide) ?_
    exact J8 true hf.symm H locs ls (lv_sub hl [0, 1, 2, 3] rfl) hP hD hS
def fX4_setWide (w_sp : Int32) (w_bs : Nat → Int32) (a1 : Int32) (a2 : Int32) : Int32 × (Nat → Int32) := (kIf (kEq a1 (3 : Int32)) (a2, w_bs) (kU1 (fX4_setPair w_bs a1 a2) (fun (b2 : Nat → Int32) => (w_sp, b2))))
def rmX4_setWide : Room := { frames := 1, cells := 0, slots := 0, locals := 22 }
def wwX4_setWide : List Cond := Cond.code yX4_setWide cX4_setWide 3 none :: wsL_law
theorem hdX4_setWide : yX4_setWide.cls = RX4 ∧ yX4_setWide.cls ≠ "java/lang/invoke/MethodHandle" ∧ yX4_setWide.cls ≠ "java/lang/invoke/VarHandle" ∧ (parseMethodDescriptor yX4_setWide.desc).map (fun d => d.parameters.length) = some 2 := by decide +kernel
set_option maxHeartbeats 4000000 in
set_option maxRecDepth 100000 in
theorem c_X4_setWide (l : Launch) (D : va_G) (cB : ClassId) (cI : ClassId) (mo mb ma sz : Nat) (w_zf : Bool) (w_nf : Bool) (w_hf : Bool) (w_cf : Bool) (w_sp : Int32) (w_pc : Int32) (w_on : Bool) (w_wt : Bool) (w_ht : Bool) (w_bg : Bool) (w_cn : Int32) (w_al : Int32) (w_cl : Int32) (w_ie : Bool) (w_ww : Bool) (w_th : Int32) (w_mm : Nat → Int32) (w_bs : Nat → Int32) (a1 : Int32) (a2 : Int32) (hpre1 : vp_in a1 4) : Met l yX4_setWide wwX4_setWide rmX4_setWide (va_Pc [.ref mo, .int a1, .int a2] (kp D (kX4 cB cI mo mb ma w_zf w_nf w_hf w_cf w_sp w_pc w_on w_wt w_ht w_bg w_cn w_al w_cl w_ie w_ww w_th w_mm w_bs) [(cB, .byte), (cI, .int)] sz)) (va_Qv (fun (u9 : Int32 × (Nat → Int32)) => u9 = fX4_setWide w_sp w_bs a1 a2) (fun u9 t => kq D (kX4 cB cI mo mb ma w_zf w_nf w_hf w_cf (u9.1) w_pc w_on w_wt w_ht w_bg w_cn w_al w_cl w_ie w_ww w_th w_mm (u9.2)) [(cB, .byte), (cI, .int)] (va_A (kX4 cB cI mo mb ma w_zf w_nf w_hf w_cf w_sp w_pc w_on w_wt w_ht w_bg w_cn w_al w_cl w_ie w_ww w_th w_mm w_bs) sz) t) (va_A (kX4 cB cI mo mb ma w_zf w_nf w_hf w_cf w_sp w_pc w_on w_wt w_ht w_bg w_cn w_al w_cl w_ie w_ww w_th w_mm w_bs) sz)) 0 0 (va_A (kX4 cB cI mo mb ma w_zf w_nf w_hf w_cf w_sp w_pc w_on w_wt w_ht w_bg w_cn w_al w_cl w_ie w_ww w_th w_mm w_bs) sz) := by
  refine Met.ofW (cc := cX4_setWide) (maxL := 3) (ret := none) (by decide) rfl ?_
  intro p e s m args below meth c s₁ B hml hv
  obtain ⟨rfl, hsz, hP, hK, hD0, hT⟩ := hv
  have hx := B.exec
  have hb := B.bytes
  have hr := B.returns
  have hts := atoms_spec (ws := wwX4_setWide) B.pre
  have hws : ∀ w ∈ wsL_law, w.before _ s = true := fun w h => hts w (List.mem_cons_of_mem _ h)
  have hown : s.vm.findClass RX4 = some m.cls := findClass_of_methodNamed B.named
  have hlocks := B.notSynchronized
  subst hsz
  have hD := hD0.self (sz := s.heap.size)
  generalize hAe : va_A (kX4 cB cI mo mb ma w_zf w_nf w_hf w_cf w_sp w_pc w_on w_wt w_ht w_bg w_cn w_al w_cl w_ie w_ww w_th w_mm w_bs) s.heap.size = A at hD hT ⊢
  have hA : ∀ q : Nat, s.heap.size ≤ q → A q := fun q h => by rw [← hAe]; exact Or.inr h
  have hS : va_S A s.heap s.heap [] := va_S.rf
  have hl := lv_entry ([.ref mo, .int a1, .int a2]) (n := 3) (Nat.le_of_ble_eq_true rfl)
  rw [lg_entry_eq]
  generalize (lg_sl ([.ref mo, .int a1, .int a2]) ++ List.replicate (3 - (lg_sl ([.ref mo, .int a1, .int a2])).length) Slot.unset).toArray = ls at hl ⊢
  have hl : lv_has ls 3 [(0, .ref mo), (1, .int a1), (2, .int a2)] := hl
  generalize hQ : MQ _ _ _ _ _ _ _ = Q
  obtain ⟨H, hHe⟩ : ∃ H : Heap, H = s.heap := ⟨_, rfl⟩
  obtain ⟨locs, hle⟩ : ∃ L : List Loc, L = [] := ⟨_, rfl⟩
  have hP : va_P D vwCl (kX4 cB cI mo mb ma w_zf w_nf w_hf w_cf w_sp w_pc w_on w_wt w_ht w_bg w_cn w_al w_cl w_ie w_ww w_th w_mm w_bs) H := by rw [hHe]; exact hP
  have hS : va_S A s.heap H locs := by rw [hHe, hle]; exact hS
  refine kw_start hHe.symm hle.symm ?_
  have hf : fX4_setWide w_sp w_bs a1 a2 = fX4_setWide w_sp w_bs a1 a2 := rfl
  refine lv_iload_n hx hb dX4_setWide_0 rfl (lv_at hl 1 rfl) ?_
  refine lv_iconst (v := 3) hx hb dX4_setWide_1 (by decide) ?_
  refine lv_icmp_ne (tgt := 13) hx hb dX4_setWide_2 (by decide) (fun c1 => ?_) (fun c1 => ?_)
  · have hf := hf.trans (kf_eq c1)
    refine lv_aload_n hx hb dX4_setWide_13 rfl (lv_at hl 0 rfl) ?_
    refine lv_iload_n hx hb dX4_setWide_14 rfl (lv_at hl 1 rfl) ?_
    refine lv_iload_n hx hb dX4_setWide_15 rfl (lv_at hl 2 rfl) ?_
    refine kc_Vv (wr := []) (As := [.int a1, .int a2]) (rest := []) (fun u9 => (kX4 cB cI mo mb ma w_zf w_nf w_hf w_cf w_sp w_pc w_on w_wt w_ht w_bg w_cn w_al w_cl w_ie w_ww w_th w_mm u9)) ⟨hx, hb, hml, hown, hws⟩ hK hP hD hS hA hT (c_X4_setPair l D cB cI mo mb ma H.size w_zf w_nf w_hf w_cf w_sp w_pc w_on w_wt w_ht w_bg w_cn w_al w_cl w_ie w_ww w_th w_mm w_bs a1 a2 hpre1) (cwV 2 hws (gw_V mw_454 mw_455 mw_456 mw_5 mw_457) rfl rfl rfl hdX4_setPair ⟨Nat.le_of_ble_eq_true rfl, Nat.le_of_ble_eq_true rfl⟩) [0, 1, 2] [] [0, 1] [0, 1, 2] rfl rfl rfl rfl (by decide) rfl (fun _ => rfl) rfl 0 rfl rfl rfl rfl hl.1 rfl (Nat.le_of_ble_eq_true rfl) dX4_setWide_16 ⟨Nat.zero_le _, Nat.zero_le _⟩ (fun b2 H locs hw3 hP hD hS => ?_)
    have hP : va_P D vwCl (kX4 cB cI mo mb ma w_zf w_nf w_hf w_cf w_sp w_pc w_on w_wt w_ht w_bg w_cn w_al w_cl w_ie w_ww w_th w_mm b2) H := hP
    have hD : va_D A (kX4 cB cI mo mb ma w_zf w_nf w_hf w_cf w_sp w_pc w_on w_wt w_ht w_bg w_cn w_al w_cl w_ie w_ww w_th w_mm b2) := hD
    have hf := hf.trans (kE1 hw3)
    rw [← hQ]
    exact W.vret hx hb hr (fun t ht hW => ⟨⟨(w_sp, b2), rfl, hf.symm, by rw [ht]; exact hP, va_K.moved hW.alike hK, hD⟩, hS.F ht⟩) hS.2.2 dX4_setWide_19
  · have hf := hf.trans (kt_eq c1)
    refine lv_aload_n hx hb dX4_setWide_5 rfl (lv_at hl 0 rfl) ?_
    refine lv_iload_n hx hb dX4_setWide_6 rfl (lv_at hl 2 rfl) ?_
    refine va_put (D := D) (ci := 4) (v := .int a2) (ty := .int) (C := RX4) (T := TX4) (N := 18) hx hb hws inlX4 tyX4 tyX4_ok nmX4 hown hK hP hD hS 0 rfl rfl 6 (by decide) (hws _ mw_382) (fun _ h9 => h9) rfl (tyX4_ok 6 (by decide)) rfl rfl (Nat.le_of_ble_eq_true rfl) dX4_setWide_7 (fun H locs hP hD hS => ?_)
    have hP : va_P D vwCl (kX4 cB cI mo mb ma w_zf w_nf w_hf w_cf a2 w_pc w_on w_wt w_ht w_bg w_cn w_al w_cl w_ie w_ww w_th w_mm w_bs) H := hP
    have hD : va_D A (kX4 cB cI mo mb ma w_zf w_nf w_hf w_cf a2 w_pc w_on w_wt w_ht w_bg w_cn w_al w_cl w_ie w_ww w_th w_mm w_bs) := hD
    refine lv_goto (tgt := 19) hx hb dX4_setWide_10 (by decide) ?_
    rw [← hQ]
    exact W.vret hx hb hr (fun t ht hW => ⟨⟨(a2, w_bs), rfl, hf.symm, by rw [ht]; exact hP, va_K.moved hW.alike hK, hD⟩, hS.F ht⟩) hS.2.2 dX4_setWide_19
def fX4_byPair (w_cn : Int32) (w_cl : Int32) (w_mm : Nat → Int32) (w_bs : Nat → Int32) (a1 : Int32) (a2 : Bool) : Int32 × Int32 × (Nat → Int32) × (Nat → Int32) := (kU1 (((kIf (kLe (2 : Int32) a1) (kU1 (fX4_hl w_bs) (fun (r3 : Int32) => r3)) (kU1 (fX4_pair w_bs a1) (fun (r5 : Int32) => r5))) : Int32)) (fun (x6 : Int32) => (kU4 (((kIf (kEq (bI a2) (0 : Int32)) (kU3 (fX4_writes w_cn w_cl w_mm x6 (w_bs (7 : Int32).toNatClampNeg)) (fun (b9 : Int32) (b10 : Int32) (b11 : Nat → Int32) => (b9, b10, b11, w_bs))) (kU2 (fX4_reads w_cl w_mm x6) (fun (r15 : Int32) (b13 : Int32) => (kU1 (upd w_bs (7 : Int32).toNatClampNeg r15) (fun (f16 : Nat → Int32) => (w_cn, b13, w_mm, f16)))))) : Int32 × Int32 × (Nat → Int32) × (Nat → Int32))) (fun (b17 : Int32) (b18 : Int32) (b19 : Nat → Int32) (b20 : Nat → Int32) => (kU1 (((kIf (kEq a1 (2 : Int32)) (kU1 (fX4_setPair b20 (2 : Int32) ((x6 + (1 : Int32)) &&& (65535 : Int32))) (fun (b23 : Nat → Int32) => b23)) b20) : (Nat → Int32))) (fun (b25 : Nat → Int32) => (kIf (kEq a1 (3 : Int32)) (kU1 (fX4_setPair b25 (2 : Int32) ((x6 - (1 : Int32)) &&& (65535 : Int32))) (fun (b28 : Nat → Int32) => (b17, b18, b19, b28))) (b17, b18, b19, b25))))))))
def rmX4_byPair : Room := { frames := 2, cells := 0, slots := 0, locals := 44 }
def wwX4_byPair : List Cond := Cond.code yX4_byPair cX4_byPair 4 none :: wsL_law
theorem hdX4_byPair : yX4_byPair.cls = RX4 ∧ yX4_byPair.cls ≠ "java/lang/invoke/MethodHandle" ∧ yX4_byPair.cls ≠ "java/lang/invoke/VarHandle" ∧ (parseMethodDescriptor yX4_byPair.desc).map (fun d => d.parameters.length) = some 2 := by decide +kernel
set_option maxHeartbeats 4000000 in
set_option maxRecDepth 100000 in
theorem c_X4_byPair (l : Launch) (D : va_G) (cB : ClassId) (cI : ClassId) (mo mb ma sz : Nat) (w_zf : Bool) (w_nf : Bool) (w_hf : Bool) (w_cf : Bool) (w_sp : Int32) (w_pc : Int32) (w_on : Bool) (w_wt : Bool) (w_ht : Bool) (w_bg : Bool) (w_cn : Int32) (w_al : Int32) (w_cl : Int32) (w_ie : Bool) (w_ww : Bool) (w_th : Int32) (w_mm : Nat → Int32) (w_bs : Nat → Int32) (a1 : Int32) (a2 : Bool) (hpre1 : vp_in a1 4) : Met l yX4_byPair wwX4_byPair rmX4_byPair (va_Pc [.ref mo, .int a1, .int (bI a2)] (kp D (kX4 cB cI mo mb ma w_zf w_nf w_hf w_cf w_sp w_pc w_on w_wt w_ht w_bg w_cn w_al w_cl w_ie w_ww w_th w_mm w_bs) [(cB, .byte), (cI, .int)] sz)) (va_Qv (fun (u9 : Int32 × Int32 × (Nat → Int32) × (Nat → Int32)) => u9 = fX4_byPair w_cn w_cl w_mm w_bs a1 a2) (fun u9 t => kq D (kX4 cB cI mo mb ma w_zf w_nf w_hf w_cf w_sp w_pc w_on w_wt w_ht w_bg (u9.1) w_al (u9.2.1) w_ie w_ww w_th (u9.2.2.1) (u9.2.2.2)) [(cB, .byte), (cI, .int)] (va_A (kX4 cB cI mo mb ma w_zf w_nf w_hf w_cf w_sp w_pc w_on w_wt w_ht w_bg w_cn w_al w_cl w_ie w_ww w_th w_mm w_bs) sz) t) (va_A (kX4 cB cI mo mb ma w_zf w_nf w_hf w_cf w_sp w_pc w_on w_wt w_ht w_bg w_cn w_al w_cl w_ie w_ww w_th w_mm w_bs) sz)) 0 0 (va_A (kX4 cB cI mo mb ma w_zf w_nf w_hf w_cf w_sp w_pc w_on w_wt w_ht w_bg w_cn w_al w_cl w_ie w_ww w_th w_mm w_bs) sz) := by
  refine Met.ofW (cc := cX4_byPair) (maxL := 4) (ret := none) (by decide) rfl ?_
  intro p e s m args below meth c s₁ B hml hv
  obtain ⟨rfl, hsz, hP, hK, hD0, hT⟩ := hv
  have hx := B.exec
  have hb := B.bytes
  have hr := B.returns
  have hts := atoms_spec (ws := wwX4_byPair) B.pre
  have hws : ∀ w ∈ wsL_law, w.before _ s = true := fun w h => hts w (List.mem_cons_of_mem _ h)
  have hown : s.vm.findClass RX4 = some m.cls := findClass_of_methodNamed B.named
  have hlocks := B.notSynchronized
  subst hsz
  have hD := hD0.self (sz := s.heap.size)
  generalize hAe : va_A (kX4 cB cI mo mb ma w_zf w_nf w_hf w_cf w_sp w_pc w_on w_wt w_ht w_bg w_cn w_al w_cl w_ie w_ww w_th w_mm w_bs) s.heap.size = A at hD hT ⊢
  have hA : ∀ q : Nat, s.heap.size ≤ q → A q := fun q h => by rw [← hAe]; exact Or.inr h
  have hS : va_S A s.heap s.heap [] := va_S.rf
  have hl := lv_entry ([.ref mo, .int a1, .int (bI a2)]) (n := 4) (Nat.le_of_ble_eq_true rfl)
  rw [lg_entry_eq]
  generalize (lg_sl ([.ref mo, .int a1, .int (bI a2)]) ++ List.replicate (4 - (lg_sl ([.ref mo, .int a1, .int (bI a2)])).length) Slot.unset).toArray = ls at hl ⊢
  have hl : lv_has ls 4 [(0, .ref mo), (1, .int a1), (2, .int (bI a2))] := hl
  generalize hQ : MQ _ _ _ _ _ _ _ = Q
  obtain ⟨H, hHe⟩ : ∃ H : Heap, H = s.heap := ⟨_, rfl⟩
  obtain ⟨locs, hle⟩ : ∃ L : List Loc, L = [] := ⟨_, rfl⟩
  have hP : va_P D vwCl (kX4 cB cI mo mb ma w_zf w_nf w_hf w_cf w_sp w_pc w_on w_wt w_ht w_bg w_cn w_al w_cl w_ie w_ww w_th w_mm w_bs) H := by rw [hHe]; exact hP
  have hS : va_S A s.heap H locs := by rw [hHe, hle]; exact hS
  refine kw_start hHe.symm hle.symm ?_
  have hf : fX4_byPair w_cn w_cl w_mm w_bs a1 a2 = fX4_byPair w_cn w_cl w_mm w_bs a1 a2 := rfl
  refine lv_iload_n hx hb dX4_byPair_0 rfl (lv_at hl 1 rfl) ?_
  refine lv_iconst (v := 2) hx hb dX4_byPair_1 (by decide) ?_
  obtain ⟨TJ7, hTJ7⟩ : ∃ T9 : Int32, T9 = (kIf (kLe (2 : Int32) a1) (kU1 (fX4_hl w_bs) (fun (r3 : Int32) => r3)) (kU1 (fX4_pair w_bs a1) (fun (r5 : Int32) => r5))) := ⟨_, rfl⟩
  have J7 : ∀ (x6 : Int32), x6 = TJ7 → ∀ (H : Heap) (locs : List Loc) (ls : Array Slot), lv_has ls 4 [(0, .ref mo), (1, .int a1), (2, .int (bI a2))] → va_P D vwCl (kX4 cB cI mo mb ma w_zf w_nf w_hf w_cf w_sp w_pc w_on w_wt w_ht w_bg w_cn w_al w_cl w_ie w_ww w_th w_mm w_bs) H → va_D A (kX4 cB cI mo mb ma w_zf w_nf w_hf w_cf w_sp w_pc w_on w_wt w_ht w_bg w_cn w_al w_cl w_ie w_ww w_th w_mm w_bs) → va_S A s.heap H locs → W p l e (headSpec wwX4_byPair rmX4_byPair).room s m ([.ref mo, .int a1, .int (bI a2)] : List Value).toArray below meth c H locs 0 0 Q (F0 m 17 ls [.int x6]) := by
    intro x6 eJ7 H locs ls hl hP hD hS
    have hf := hf.trans (kE1 (eJ7.trans hTJ7))
    refine lv_istore_n (lv' := [(3, .int x6), (0, .ref mo), (1, .int a1), (2, .int (bI a2))]) hx hb dX4_byPair_17 rfl hl (by decide) rfl (fun ls hl => ?_)
    refine lv_iload_n hx hb dX4_byPair_18 rfl (lv_at hl 3 rfl) ?_
    obtain ⟨TJ21, hTJ21⟩ : ∃ T9 : Int32 × Int32 × (Nat → Int32) × (Nat → Int32), T9 = (kIf (kEq (bI a2) (0 : Int32)) (kU3 (fX4_writes w_cn w_cl w_mm x6 (w_bs (7 : Int32).toNatClampNeg)) (fun (b9 : Int32) (b10 : Int32) (b11 : Nat → Int32) => (b9, b10, b11, w_bs))) (kU2 (fX4_reads w_cl w_mm x6) (fun (r15 : Int32) (b13 : Int32) => (kU1 (upd w_bs (7 : Int32).toNatClampNeg r15) (fun (f16 : Nat → Int32) => (w_cn, b13, w_mm, f16)))))) := ⟨_, rfl⟩
    have J21 : ∀ (b17 : Int32) (b18 : Int32) (b19 : Nat → Int32) (b20 : Nat → Int32), (b17, b18, b19, b20) = TJ21 → ∀ (H : Heap) (locs : List Loc) (ls : Array Slot), lv_has ls 4 [(3, .int x6), (0, .ref mo), (1, .int a1), (2, .int (bI a2))] → va_P D vwCl (kX4 cB cI mo mb ma w_zf w_nf w_hf w_cf w_sp w_pc w_on w_wt w_ht w_bg b17 w_al b18 w_ie w_ww w_th b19 b20) H → va_D A (kX4 cB cI mo mb ma w_zf w_nf w_hf w_cf w_sp w_pc w_on w_wt w_ht w_bg b17 w_al b18 w_ie w_ww w_th b19 b20) → va_S A s.heap H locs → W p l e (headSpec wwX4_byPair rmX4_byPair).room s m ([.ref mo, .int a1, .int (bI a2)] : List Value).toArray below meth c H locs 0 0 Q (F0 m 49 ls []) := by
      intro b17 b18 b19 b20 eJ21 H locs ls hl hP hD hS
      have hf := hf.trans (kE4 (eJ21.trans hTJ21))
      refine lv_iload_n hx hb dX4_byPair_49 rfl (lv_at hl 2 rfl) ?_
      refine lv_iconst (v := 2) hx hb dX4_byPair_50 (by decide) ?_
      obtain ⟨TJ26, hTJ26⟩ : ∃ T9 : (Nat → Int32), T9 = (kIf (kEq a1 (2 : Int32)) (kU1 (fX4_setPair b20 (2 : Int32) ((x6 + (1 : Int32)) &&& (65535 : Int32))) (fun (b23 : Nat → Int32) => b23)) b20) := ⟨_, rfl⟩
      have J26 : ∀ (b25 : Nat → Int32), b25 = TJ26 → ∀ (H : Heap) (locs : List Loc) (ls : Array Slot), lv_has ls 4 [(3, .int x6), (0, .ref mo), (1, .int a1), (2, .int (bI a2))] → va_P D vwCl (kX4 cB cI mo mb ma w_zf w_nf w_hf w_cf w_sp w_pc w_on w_wt w_ht w_bg b17 w_al b18 w_ie w_ww w_th b19 b25) H → va_D A (kX4 cB cI mo mb ma w_zf w_nf w_hf w_cf w_sp w_pc w_on w_wt w_ht w_bg b17 w_al b18 w_ie w_ww w_th b19 b25) → va_S A s.heap H locs → W p l e (headSpec wwX4_byPair rmX4_byPair).room s m ([.ref mo, .int a1, .int (bI a2)] : List Value).toArray below meth c H locs 0 0 Q (F0 m 65 ls []) := by
        intro b25 eJ26 H locs ls hl hP hD hS
        have hf := hf.trans (kE1 (eJ26.trans hTJ26))
        refine lv_iload_n hx hb dX4_byPair_65 rfl (lv_at hl 2 rfl) ?_
        refine lv_iconst (v := 3) hx hb dX4_byPair_66 (by decide) ?_
        refine lv_icmp_ne (tgt := 81) hx hb dX4_byPair_67 (by decide) (fun c27 => ?_) (fun c27 => ?_)
        · have hf := hf.trans (kf_eq c27)
          rw [← hQ]
          exact W.vret hx hb hr (fun t ht hW => ⟨⟨(b17, b18, b19, b25), rfl, hf.symm, by rw [ht]; exact hP, va_K.moved hW.alike hK, hD⟩, hS.F ht⟩) hS.2.2 dX4_byPair_81
        · have hf := hf.trans (kt_eq c27)
          refine lv_aload_n hx hb dX4_byPair_70 rfl (lv_at hl 1 rfl) ?_
          refine lv_iconst (v := 2) hx hb dX4_byPair_71 (by decide) ?_
          refine lv_iload_n hx hb dX4_byPair_72 rfl (lv_at hl 0 rfl) ?_
          refine lv_iconst (v := 1) hx hb dX4_byPair_73 (by decide) ?_
          refine lv_isub hx hb dX4_byPair_74 ?_
          refine lv_ldc (v := 65535) hx hb hown (hws _ mw_61) dX4_byPair_75 ?_
          refine lv_iand hx hb dX4_byPair_77 ?_
          refine kc_Vv (wr := []) (As := [.int (2 : Int32), .int ((x6 - (1 : Int32)) &&& (65535 : Int32))]) (rest := []) (fun u9 => (kX4 cB cI mo mb ma w_zf w_nf w_hf w_cf w_sp w_pc w_on w_wt w_ht w_bg b17 w_al b18 w_ie w_ww w_th b19 u9)) ⟨hx, hb, hml, hown, hws⟩ hK hP hD hS hA hT (c_X4_setPair l D cB cI mo mb ma H.size w_zf w_nf w_hf w_cf w_sp w_pc w_on w_wt w_ht w_bg b17 w_al b18 w_ie w_ww w_th b19 b25 (2 : Int32) ((x6 - (1 : Int32)) &&& (65535 : Int32)) (by unfold vp_in; decide)) (cwV 2 hws (gw_V mw_454 mw_455 mw_456 mw_5 mw_457) rfl rfl rfl hdX4_setPair ⟨Nat.le_of_ble_eq_true rfl, Nat.le_of_ble_eq_true rfl⟩) [0, 1, 2] [] [0, 1] [0, 1, 2] rfl rfl rfl rfl (by decide) rfl (fun _ => rfl) rfl 0 rfl rfl rfl rfl hl.1 rfl (Nat.le_of_ble_eq_true rfl) dX4_byPair_78 ⟨Nat.zero_le _, Nat.zero_le _⟩ (fun b28 H locs hw29 hP hD hS => ?_)
          have hP : va_P D vwCl (kX4 cB cI mo mb ma w_zf w_nf w_hf w_cf w_sp w_pc w_on w_wt w_ht w_bg b17 w_al b18 w_ie w_ww w_th b19 b28) H := hP
          have hD : va_D A (kX4 cB cI mo mb ma w_zf w_nf w_hf w_cf w_sp w_pc w_on w_wt w_ht w_bg b17 w_al b18 w_ie w_ww w_th b19 b28) := hD
          have hf := hf.trans (kE1 hw29)
          rw [← hQ]
          exact W.vret hx hb hr (fun t ht hW => ⟨⟨(b17, b18, b19, b28), rfl, hf.symm, by rw [ht]; exact hP, va_K.moved hW.alike hK, hD⟩, hS.F ht⟩) hS.2.2 dX4_byPair_81
      have hf := hTJ26
      refine lv_icmp_ne (tgt := 65) hx hb dX4_byPair_51 (by decide) (fun c22 => ?_) (fun c22 => ?_)
      · have hf := hf.trans (kf_eq c22)
        exact J26 b20 hf.symm H locs ls (lv_sub hl [0, 1, 2, 3] rfl) hP hD hS
      · have hf := hf.trans (kt_eq c22)
        refine lv_aload_n hx hb dX4_byPair_54 rfl (lv_at hl 1 rfl) ?_
        refine lv_iconst (v := 2) hx hb dX4_byPair_55 (by decide) ?_
        refine lv_iload_n hx hb dX4_byPair_56 rfl (lv_at hl 0 rfl) ?_
        refine lv_iconst (v := 1) hx hb dX4_byPair_57 (by decide) ?_
        refine lv_iadd hx hb dX4_byPair_58 ?_
        refine lv_ldc (v := 65535) hx hb hown (hws _ mw_61) dX4_byPair_59 ?_
        refine lv_iand hx hb dX4_byPair_61 ?_
        refine kc_Vv (wr := []) (As := [.int (2 : Int32), .int ((x6 + (1 : Int32)) &&& (65535 : Int32))]) (rest := []) (fun u9 => (kX4 cB cI mo mb ma w_zf w_nf w_hf w_cf w_sp w_pc w_on w_wt w_ht w_bg b17 w_al b18 w_ie w_ww w_th b19 u9)) ⟨hx, hb, hml, hown, hws⟩ hK hP hD hS hA hT (c_X4_setPair l D cB cI mo mb ma H.size w_zf w_nf w_hf w_cf w_sp w_pc w_on w_wt w_ht w_bg b17 w_al b18 w_ie w_ww w_th b19 b20 (2 : Int32) ((x6 + (1 : Int32)) &&& (65535 : Int32)) (by unfold vp_in; decide)) (cwV 2 hws (gw_V mw_454 mw_455 mw_456 mw_5 mw_457) rfl rfl rfl hdX4_setPair ⟨Nat.le_of_ble_eq_true rfl, Nat.le_of_ble_eq_true rfl⟩) [0, 1, 2] [] [0, 1] [0, 1, 2] rfl rfl rfl rfl (by decide) rfl (fun _ => rfl) rfl 0 rfl rfl rfl rfl hl.1 rfl (Nat.le_of_ble_eq_true rfl) dX4_byPair_62 ⟨Nat.zero_le _, Nat.zero_le _⟩ (fun b23 H locs hw24 hP hD hS => ?_)
        have hP : va_P D vwCl (kX4 cB cI mo mb ma w_zf w_nf w_hf w_cf w_sp w_pc w_on w_wt w_ht w_bg b17 w_al b18 w_ie w_ww w_th b19 b23) H := hP
        have hD : va_D A (kX4 cB cI mo mb ma w_zf w_nf w_hf w_cf w_sp w_pc w_on w_wt w_ht w_bg b17 w_al b18 w_ie w_ww w_th b19 b23) := hD
        have hf := hf.trans (kE1 hw24)
        exact J26 b23 hf.symm H locs ls (lv_sub hl [0, 1, 2, 3] rfl) hP hD hS
    have hf := hTJ21
    refine lv_if_eq (tgt := 37) hx hb dX4_byPair_19 (by decide) (fun c8 => ?_) (fun c8 => ?_)
    · have hf := hf.trans (kt_eq c8)
      refine lv_aload_n hx hb dX4_byPair_37 rfl (lv_at hl 1 rfl) ?_
      refine lv_iload_n hx hb dX4_byPair_38 rfl (lv_at hl 0 rfl) ?_
      refine lv_aload_n hx hb dX4_byPair_39 rfl (lv_at hl 1 rfl) ?_
      refine va_get (D := D) (ci := 4) (v := .ref ma) (C := RX4) (T := TX4) (N := 18) hx hb hws inlX4 hown hK hP 0 rfl rfl 1 (by decide) (hws _ mw_45) (fun _ h9 => h9) rfl dX4_byPair_40 ?_
      refine lv_bipush (v := 7) hx hb dX4_byPair_43 (by decide) ?_
      refine va_iald hx hb hK hP 2 1 rfl rfl (by unfold vp_in; decide) dX4_byPair_45 ?_
      refine kc_Vv (wr := []) (As := [.int x6, .int (w_bs (7 : Int32).toNatClampNeg)]) (rest := []) (fun u9 => (kX4 cB cI mo mb ma w_zf w_nf w_hf w_cf w_sp w_pc w_on w_wt w_ht w_bg (u9.1) w_al (u9.2.1) w_ie w_ww w_th (u9.2.2) w_bs)) ⟨hx, hb, hml, hown, hws⟩ hK hP hD hS hA hT (c_X4_writes l D cB cI mo mb ma H.size w_zf w_nf w_hf w_cf w_sp w_pc w_on w_wt w_ht w_bg w_cn w_al w_cl w_ie w_ww w_th w_mm w_bs x6 (w_bs (7 : Int32).toNatClampNeg)) (cwV 2 hws (gw_V mw_383 mw_384 mw_385 mw_5 mw_386) rfl rfl rfl hdX4_writes ⟨Nat.le_of_ble_eq_true rfl, Nat.le_of_ble_eq_true rfl⟩) [0, 1, 2] [] [0, 1] [0, 1, 2] rfl rfl rfl rfl (by decide) rfl (fun _ => rfl) rfl 0 rfl rfl rfl rfl hl.1 rfl (Nat.le_of_ble_eq_true rfl) dX4_byPair_46 ⟨Nat.zero_le _, Nat.zero_le _⟩ (fun u9 H locs hw12 hP hD hS => ?_)
      obtain ⟨b9, b10, b11⟩ := u9
      have hP : va_P D vwCl (kX4 cB cI mo mb ma w_zf w_nf w_hf w_cf w_sp w_pc w_on w_wt w_ht w_bg b9 w_al b10 w_ie w_ww w_th b11 w_bs) H := hP
      have hD : va_D A (kX4 cB cI mo mb ma w_zf w_nf w_hf w_cf w_sp w_pc w_on w_wt w_ht w_bg b9 w_al b10 w_ie w_ww w_th b11 w_bs) := hD
      have hf := hf.trans (kE3 hw12)
      exact J21 b9 b10 b11 w_bs hf.symm H locs ls (lv_sub hl [0, 1, 2, 3] rfl) hP hD hS
    · have hf := hf.trans (kf_eq c8)
      refine lv_aload_n hx hb dX4_byPair_22 rfl (lv_at hl 1 rfl) ?_
      refine va_get (D := D) (ci := 4) (v := .ref ma) (C := RX4) (T := TX4) (N := 18) hx hb hws inlX4 hown hK hP 0 rfl rfl 1 (by decide) (hws _ mw_45) (fun _ h9 => h9) rfl dX4_byPair_23 ?_
      refine lv_bipush (v := 7) hx hb dX4_byPair_26 (by decide) ?_
      refine lv_aload_n hx hb dX4_byPair_28 rfl (lv_at hl 1 rfl) ?_
      refine lv_iload_n hx hb dX4_byPair_29 rfl (lv_at hl 0 rfl) ?_
      refine kc_Vi (wr := []) (As := [.int x6]) (rest := [.int (7 : Int32), .ref ma]) (fun u9 => (kX4 cB cI mo mb ma w_zf w_nf w_hf w_cf w_sp w_pc w_on w_wt w_ht w_bg w_cn w_al u9 w_ie w_ww w_th w_mm w_bs)) ⟨hx, hb, hml, hown, hws⟩ hK hP hD hS hA hT (c_X4_reads l D cB cI mo mb ma H.size w_zf w_nf w_hf w_cf w_sp w_pc w_on w_wt w_ht w_bg w_cn w_al w_cl w_ie w_ww w_th w_mm w_bs x6) (cwV 1 hws (gw_V mw_406 mw_407 mw_408 mw_5 mw_409) rfl rfl rfl hdX4_reads ⟨Nat.le_of_ble_eq_true rfl, Nat.le_of_ble_eq_true rfl⟩) [0, 1, 2] [] [0, 1] [0, 1, 2] rfl rfl rfl rfl (by decide) rfl (fun _ => rfl) rfl 0 rfl rfl rfl rfl hl.1 rfl (Nat.le_of_ble_eq_true rfl) dX4_byPair_30 ⟨Nat.zero_le _, Nat.zero_le _⟩ (fun r15 b13 H locs hw14 hP hD hS => ?_)
      have hP : va_P D vwCl (kX4 cB cI mo mb ma w_zf w_nf w_hf w_cf w_sp w_pc w_on w_wt w_ht w_bg w_cn w_al b13 w_ie w_ww w_th w_mm w_bs) H := hP
      have hD : va_D A (kX4 cB cI mo mb ma w_zf w_nf w_hf w_cf w_sp w_pc w_on w_wt w_ht w_bg w_cn w_al b13 w_ie w_ww w_th w_mm w_bs) := hD
      have hf := hf.trans (kE2 hw14)
      refine va_iast hx hb hK hP hD hS 2 1 rfl rfl (by unfold vp_in; decide) dX4_byPair_33 (fun H locs hP hD hS => ?_)
      obtain ⟨f16, ef16⟩ : ∃ f9 : Nat → Int32, f9 = upd w_bs (7 : Int32).toNatClampNeg r15 := ⟨_, rfl⟩
      have hf := hf.trans (kE1 ef16)
      have hP : va_P D vwCl (kX4 cB cI mo mb ma w_zf w_nf w_hf w_cf w_sp w_pc w_on w_wt w_ht w_bg w_cn w_al b13 w_ie w_ww w_th w_mm f16) H := by rw [ef16]; exact hP
      have hD : va_D A (kX4 cB cI mo mb ma w_zf w_nf w_hf w_cf w_sp w_pc w_on w_wt w_ht w_bg w_cn w_al b13 w_ie w_ww w_th w_mm f16) := by rw [ef16]; exact hD
      refine lv_goto (tgt := 49) hx hb dX4_byPair_34 (by decide) ?_
      exact J21 w_cn b13 w_mm f16 hf.symm H locs ls (lv_sub hl [0, 1, 2, 3] rfl) hP hD hS
  have hf := hTJ7
  refine lv_icmp_ge (tgt := 13) hx hb dX4_byPair_2 (by decide) (fun c1 => ?_) (fun c1 => ?_)
  · have hf := hf.trans (kt_le c1)
    refine lv_aload_n hx hb dX4_byPair_13 rfl (lv_at hl 0 rfl) ?_
    refine kc_Vi (wr := []) (As := []) (rest := []) (fun _ => (kX4 cB cI mo mb ma w_zf w_nf w_hf w_cf w_sp w_pc w_on w_wt w_ht w_bg w_cn w_al w_cl w_ie w_ww w_th w_mm w_bs)) ⟨hx, hb, hml, hown, hws⟩ hK hP hD hS hA hT (c_X4_hl l D cB cI mo mb ma H.size w_zf w_nf w_hf w_cf w_sp w_pc w_on w_wt w_ht w_bg w_cn w_al w_cl w_ie w_ww w_th w_mm w_bs ) (cwV 0 hws (gw_V mw_436 mw_437 mw_438 mw_5 mw_439) rfl rfl rfl hdX4_hl ⟨Nat.le_of_ble_eq_true rfl, Nat.le_of_ble_eq_true rfl⟩) [0, 1, 2] [] [0, 1] [0, 1, 2] rfl rfl rfl rfl (by decide) rfl (fun _ => rfl) rfl 0 rfl rfl rfl rfl hl.1 rfl (Nat.le_of_ble_eq_true rfl) dX4_byPair_14 ⟨Nat.zero_le _, Nat.zero_le _⟩ (fun r3 _ H locs hw2 hP hD hS => ?_)
    have hP : va_P D vwCl (kX4 cB cI mo mb ma w_zf w_nf w_hf w_cf w_sp w_pc w_on w_wt w_ht w_bg w_cn w_al w_cl w_ie w_ww w_th w_mm w_bs) H := hP
    have hD : va_D A (kX4 cB cI mo mb ma w_zf w_nf w_hf w_cf w_sp w_pc w_on w_wt w_ht w_bg w_cn w_al w_cl w_ie w_ww w_th w_mm w_bs) := hD
    have hf := hf.trans (kE1 hw2)
    exact J7 r3 hf.symm H locs ls (lv_sub hl [0, 1, 2] rfl) hP hD hS
  · have hf := hf.trans (kf_le c1)
    refine lv_aload_n hx hb dX4_byPair_5 rfl (lv_at hl 0 rfl) ?_
    refine lv_iload_n hx hb dX4_byPair_6 rfl (lv_at hl 1 rfl) ?_
    refine kc_Vi (wr := []) (As := [.int a1]) (rest := []) (fun _ => (kX4 cB cI mo mb ma w_zf w_nf w_hf w_cf w_sp w_pc w_on w_wt w_ht w_bg w_cn w_al w_cl w_ie w_ww w_th w_mm w_bs)) ⟨hx, hb, hml, hown, hws⟩ hK hP hD hS hA hT (c_X4_pair l D cB cI mo mb ma H.size w_zf w_nf w_hf w_cf w_sp w_pc w_on w_wt w_ht w_bg w_cn w_al w_cl w_ie w_ww w_th w_mm w_bs a1 hpre1) (cwV 1 hws (gw_V mw_444 mw_445 mw_446 mw_5 mw_447) rfl rfl rfl hdX4_pair ⟨Nat.le_of_ble_eq_true rfl, Nat.le_of_ble_eq_true rfl⟩) [0, 1, 2] [] [0, 1] [0, 1, 2] rfl rfl rfl rfl (by decide) rfl (fun _ => rfl) rfl 0 rfl rfl rfl rfl hl.1 rfl (Nat.le_of_ble_eq_true rfl) dX4_byPair_7 ⟨Nat.zero_le _, Nat.zero_le _⟩ (fun r5 _ H locs hw4 hP hD hS => ?_)
    have hP : va_P D vwCl (kX4 cB cI mo mb ma w_zf w_nf w_hf w_cf w_sp w_pc w_on w_wt w_ht w_bg w_cn w_al w_cl w_ie w_ww w_th w_mm w_bs) H := hP
    have hD : va_D A (kX4 cB cI mo mb ma w_zf w_nf w_hf w_cf w_sp w_pc w_on w_wt w_ht w_bg w_cn w_al w_cl w_ie w_ww w_th w_mm w_bs) := hD
    have hf := hf.trans (kE1 hw4)
    refine lv_goto (tgt := 17) hx hb dX4_byPair_10 (by decide) ?_
    exact J7 r5 hf.symm H locs ls (lv_sub hl [0, 1, 2] rfl) hP hD hS
def fX4_onA (w_zf : Bool) (w_nf : Bool) (w_hf : Bool) (w_cf : Bool) (w_bs : Nat → Int32) (a1 : Int32) : Bool × Bool × Bool × Bool × (Nat → Int32) := (kIf (kLe (4 : Int32) a1) (kIf (kEq a1 (4 : Int32)) (kU5 (fX4_adjusts w_zf w_nf w_hf w_cf w_bs) (fun (b14 : Bool) (b15 : Bool) (b16 : Bool) (b17 : Bool) (b18 : Nat → Int32) => (b14, b15, b16, b17, b18))) (kIf (kEq a1 (5 : Int32)) (kU1 (upd w_bs (7 : Int32).toNatClampNeg ((w_bs (7 : Int32).toNatClampNeg) ^^^ (255 : Int32))) (fun (f13 : Nat → Int32) => (w_zf, true, true, w_cf, f13))) (kU1 (((kIf (kEq a1 (6 : Int32)) true (kIf (kEq (bI w_cf) (0 : Int32)) true false)) : Bool)) (fun (z6 : Bool) => (kU4 (fX4_flagsAre w_zf w_nf w_hf w_cf w_zf false false z6) (fun (b8 : Bool) (b9 : Bool) (b10 : Bool) (b11 : Bool) => (b8, b9, b10, b11, w_bs))))))) (kU5 (fX4_turned w_zf w_nf w_hf w_cf a1 (w_bs (7 : Int32).toNatClampNeg)) (fun (r25 : Int32) (b20 : Bool) (b21 : Bool) (b22 : Bool) (b23 : Bool) => (kU1 (upd w_bs (7 : Int32).toNatClampNeg r25) (fun (f26 : Nat → Int32) => (false, b21, b22, b23, f26))))))
def rmX4_onA : Room := { frames := 2, cells := 0, slots := 0, locals := 49 }
def wwX4_onA : List Cond := Cond.code yX4_onA cX4_onA 2 none :: wsL_law
theorem hdX4_onA : yX4_onA.cls = RX4 ∧ yX4_onA.cls ≠ "java/lang/invoke/MethodHandle" ∧ yX4_onA.cls ≠ "java/lang/invoke/VarHandle" ∧ (parseMethodDescriptor yX4_onA.desc).map (fun d => d.parameters.length) = some 1 := by decide +kernel
set_option maxHeartbeats 4000000 in
set_option maxRecDepth 100000 in
theorem c_X4_onA (l : Launch) (D : va_G) (cB : ClassId) (cI : ClassId) (mo mb ma sz : Nat) (w_zf : Bool) (w_nf : Bool) (w_hf : Bool) (w_cf : Bool) (w_sp : Int32) (w_pc : Int32) (w_on : Bool) (w_wt : Bool) (w_ht : Bool) (w_bg : Bool) (w_cn : Int32) (w_al : Int32) (w_cl : Int32) (w_ie : Bool) (w_ww : Bool) (w_th : Int32) (w_mm : Nat → Int32) (w_bs : Nat → Int32) (a1 : Int32)  : Met l yX4_onA wwX4_onA rmX4_onA (va_Pc [.ref mo, .int a1] (kp D (kX4 cB cI mo mb ma w_zf w_nf w_hf w_cf w_sp w_pc w_on w_wt w_ht w_bg w_cn w_al w_cl w_ie w_ww w_th w_mm w_bs) [(cB, .byte), (cI, .int)] sz)) (va_Qv (fun (u9 : Bool × Bool × Bool × Bool × (Nat → Int32)) => u9 = fX4_onA w_zf w_nf w_hf w_cf w_bs a1) (fun u9 t => kq D (kX4 cB cI mo mb ma (u9.1) (u9.2.1) (u9.2.2.1) (u9.2.2.2.1) w_sp w_pc w_on w_wt w_ht w_bg w_cn w_al w_cl w_ie w_ww w_th w_mm (u9.2.2.2.2)) [(cB, .byte), (cI, .int)] (va_A (kX4 cB cI mo mb ma w_zf w_nf w_hf w_cf w_sp w_pc w_on w_wt w_ht w_bg w_cn w_al w_cl w_ie w_ww w_th w_mm w_bs) sz) t) (va_A (kX4 cB cI mo mb ma w_zf w_nf w_hf w_cf w_sp w_pc w_on w_wt w_ht w_bg w_cn w_al w_cl w_ie w_ww w_th w_mm w_bs) sz)) 0 0 (va_A (kX4 cB cI mo mb ma w_zf w_nf w_hf w_cf w_sp w_pc w_on w_wt w_ht w_bg w_cn w_al w_cl w_ie w_ww w_th w_mm w_bs) sz) := by
  refine Met.ofW (cc := cX4_onA) (maxL := 2) (ret := none) (by decide) rfl ?_
  intro p e s m args below meth c s₁ B hml hv
  obtain ⟨rfl, hsz, hP, hK, hD0, hT⟩ := hv
  have hx := B.exec
  have hb := B.bytes
  have hr := B.returns
  have hts := atoms_spec (ws := wwX4_onA) B.pre
  have hws : ∀ w ∈ wsL_law, w.before _ s = true := fun w h => hts w (List.mem_cons_of_mem _ h)
  have hown : s.vm.findClass RX4 = some m.cls := findClass_of_methodNamed B.named
  have hlocks := B.notSynchronized
  subst hsz
  have hD := hD0.self (sz := s.heap.size)
  generalize hAe : va_A (kX4 cB cI mo mb ma w_zf w_nf w_hf w_cf w_sp w_pc w_on w_wt w_ht w_bg w_cn w_al w_cl w_ie w_ww w_th w_mm w_bs) s.heap.size = A at hD hT ⊢
  have hA : ∀ q : Nat, s.heap.size ≤ q → A q := fun q h => by rw [← hAe]; exact Or.inr h
  have hS : va_S A s.heap s.heap [] := va_S.rf
  have hl := lv_entry ([.ref mo, .int a1]) (n := 2) (Nat.le_of_ble_eq_true rfl)
  rw [lg_entry_eq]
  generalize (lg_sl ([.ref mo, .int a1]) ++ List.replicate (2 - (lg_sl ([.ref mo, .int a1])).length) Slot.unset).toArray = ls at hl ⊢
  have hl : lv_has ls 2 [(0, .ref mo), (1, .int a1)] := hl
  generalize hQ : MQ _ _ _ _ _ _ _ = Q
  obtain ⟨H, hHe⟩ : ∃ H : Heap, H = s.heap := ⟨_, rfl⟩
  obtain ⟨locs, hle⟩ : ∃ L : List Loc, L = [] := ⟨_, rfl⟩
  have hP : va_P D vwCl (kX4 cB cI mo mb ma w_zf w_nf w_hf w_cf w_sp w_pc w_on w_wt w_ht w_bg w_cn w_al w_cl w_ie w_ww w_th w_mm w_bs) H := by rw [hHe]; exact hP
  have hS : va_S A s.heap H locs := by rw [hHe, hle]; exact hS
  refine kw_start hHe.symm hle.symm ?_
  have hf : fX4_onA w_zf w_nf w_hf w_cf w_bs a1 = fX4_onA w_zf w_nf w_hf w_cf w_bs a1 := rfl
  refine lv_iload_n hx hb dX4_onA_0 rfl (lv_at hl 1 rfl) ?_
  refine lv_iconst (v := 4) hx hb dX4_onA_1 (by decide) ?_
  refine lv_icmp_ge (tgt := 32) hx hb dX4_onA_2 (by decide) (fun c1 => ?_) (fun c1 => ?_)
  · have hf := hf.trans (kt_le c1)
    refine lv_iload_n hx hb dX4_onA_32 rfl (lv_at hl 1 rfl) ?_
    refine lv_iconst (v := 4) hx hb dX4_onA_33 (by decide) ?_
    refine lv_icmp_ne (tgt := 44) hx hb dX4_onA_34 (by decide) (fun c2 => ?_) (fun c2 => ?_)
    · have hf := hf.trans (kf_eq c2)
      refine lv_iload_n hx hb dX4_onA_44 rfl (lv_at hl 1 rfl) ?_
      refine lv_iconst (v := 5) hx hb dX4_onA_45 (by decide) ?_
      refine lv_icmp_ne (tgt := 75) hx hb dX4_onA_46 (by decide) (fun c3 => ?_) (fun c3 => ?_)
      · have hf := hf.trans (kf_eq c3)
        refine lv_aload_n hx hb dX4_onA_75 rfl (lv_at hl 0 rfl) ?_
        refine lv_aload_n hx hb dX4_onA_76 rfl (lv_at hl 0 rfl) ?_
        refine va_get (D := D) (ci := 4) (v := .int (bI w_zf)) (C := RX4) (T := TX4) (N := 18) hx hb hws inlX4 hown hK hP 0 rfl rfl 2 (by decide) (hws _ mw_430) (fun _ h9 => h9) rfl dX4_onA_77 ?_
        refine lv_iconst (v := 0) hx hb dX4_onA_80 (by decide) ?_
        refine lv_iconst (v := 0) hx hb dX4_onA_81 (by decide) ?_
        refine lv_iload_n hx hb dX4_onA_82 rfl (lv_at hl 1 rfl) ?_
        refine lv_bipush (v := 6) hx hb dX4_onA_83 (by decide) ?_
        obtain ⟨TJ7, hTJ7⟩ : ∃ T9 : Bool, T9 = (kIf (kEq a1 (6 : Int32)) true (kIf (kEq (bI w_cf) (0 : Int32)) true false)) := ⟨_, rfl⟩
        have J7 : ∀ (z6 : Bool), z6 = TJ7 → ∀ (H : Heap) (locs : List Loc) (ls : Array Slot), lv_has ls 2 [(0, .ref mo), (1, .int a1)] → va_P D vwCl (kX4 cB cI mo mb ma w_zf w_nf w_hf w_cf w_sp w_pc w_on w_wt w_ht w_bg w_cn w_al w_cl w_ie w_ww w_th w_mm w_bs) H → va_D A (kX4 cB cI mo mb ma w_zf w_nf w_hf w_cf w_sp w_pc w_on w_wt w_ht w_bg w_cn w_al w_cl w_ie w_ww w_th w_mm w_bs) → va_S A s.heap H locs → W p l e (headSpec wwX4_onA rmX4_onA).room s m ([.ref mo, .int a1] : List Value).toArray below meth c H locs 0 0 Q (F0 m 100 ls [.int (bI z6), .int (0 : Int32), .int (0 : Int32), .int (bI w_zf), .ref mo]) := by
          intro z6 eJ7 H locs ls hl hP hD hS
          have hf := hf.trans (kE1 (eJ7.trans hTJ7))
          refine kc_Vv (wr := []) (As := [.int (bI w_zf), .int (bI false), .int (bI false), .int (bI z6)]) (rest := []) (fun u9 => (kX4 cB cI mo mb ma (u9.1) (u9.2.1) (u9.2.2.1) (u9.2.2.2) w_sp w_pc w_on w_wt w_ht w_bg w_cn w_al w_cl w_ie w_ww w_th w_mm w_bs)) ⟨hx, hb, hml, hown, hws⟩ hK hP hD hS hA hT (c_X4_flagsAre l D cB cI mo mb ma H.size w_zf w_nf w_hf w_cf w_sp w_pc w_on w_wt w_ht w_bg w_cn w_al w_cl w_ie w_ww w_th w_mm w_bs w_zf false false z6) (cwV 4 hws (gw_V mw_448 mw_449 mw_450 mw_5 mw_451) rfl rfl rfl hdX4_flagsAre ⟨Nat.le_of_ble_eq_true rfl, Nat.le_of_ble_eq_true rfl⟩) [0, 1, 2] [] [0, 1] [0, 1, 2] rfl rfl rfl rfl (by decide) rfl (fun _ => rfl) rfl 0 rfl rfl rfl rfl hl.1 rfl (Nat.le_of_ble_eq_true rfl) dX4_onA_100 ⟨Nat.zero_le _, Nat.zero_le _⟩ (fun u9 H locs hw12 hP hD hS => ?_)
          obtain ⟨b8, b9, b10, b11⟩ := u9
          have hP : va_P D vwCl (kX4 cB cI mo mb ma b8 b9 b10 b11 w_sp w_pc w_on w_wt w_ht w_bg w_cn w_al w_cl w_ie w_ww w_th w_mm w_bs) H := hP
          have hD : va_D A (kX4 cB cI mo mb ma b8 b9 b10 b11 w_sp w_pc w_on w_wt w_ht w_bg w_cn w_al w_cl w_ie w_ww w_th w_mm w_bs) := hD
          have hf := hf.trans (kE4 hw12)
          rw [← hQ]
          exact W.vret hx hb hr (fun t ht hW => ⟨⟨(b8, b9, b10, b11, w_bs), rfl, hf.symm, by rw [ht]; exact hP, va_K.moved hW.alike hK, hD⟩, hS.F ht⟩) hS.2.2 dX4_onA_103
        have hf := hTJ7
        refine lv_icmp_eq (tgt := 95) hx hb dX4_onA_85 (by decide) (fun c4 => ?_) (fun c4 => ?_)
        · have hf := hf.trans (kt_eq c4)
          refine lv_iconst (v := 1) hx hb dX4_onA_95 (by decide) ?_
          refine lv_goto (tgt := 100) hx hb dX4_onA_96 (by decide) ?_
          exact J7 true hf.symm H locs ls (lv_sub hl [0, 1] rfl) hP hD hS
        · have hf := hf.trans (kf_eq c4)
          refine lv_aload_n hx hb dX4_onA_88 rfl (lv_at hl 0 rfl) ?_
          refine va_get (D := D) (ci := 4) (v := .int (bI w_cf)) (C := RX4) (T := TX4) (N := 18) hx hb hws inlX4 hown hK hP 0 rfl rfl 5 (by decide) (hws _ mw_431) (fun _ h9 => h9) rfl dX4_onA_89 ?_
          refine lv_if_ne (tgt := 99) hx hb dX4_onA_92 (by decide) (fun c5 => ?_) (fun c5 => ?_)
          · have hf := hf.trans (kf_eq c5)
            refine lv_iconst (v := 0) hx hb dX4_onA_99 (by decide) ?_
            exact J7 false hf.symm H locs ls (lv_sub hl [0, 1] rfl) hP hD hS
          · have hf := hf.trans (kt_eq c5)
            refine lv_iconst (v := 1) hx hb dX4_onA_95 (by decide) ?_
            refine lv_goto (tgt := 100) hx hb dX4_onA_96 (by decide) ?_
            exact J7 true hf.symm H locs ls (lv_sub hl [0, 1] rfl) hP hD hS
      · have hf := hf.trans (kt_eq c3)
        refine lv_aload_n hx hb dX4_onA_49 rfl (lv_at hl 0 rfl) ?_
        refine va_get (D := D) (ci := 4) (v := .ref ma) (C := RX4) (T := TX4) (N := 18) hx hb hws inlX4 hown hK hP 0 rfl rfl 1 (by decide) (hws _ mw_45) (fun _ h9 => h9) rfl dX4_onA_50 ?_
        refine lv_bipush (v := 7) hx hb dX4_onA_53 (by decide) ?_
        refine lv_dup2_11 hx hb dX4_onA_55 rfl rfl ?_
        refine va_iald hx hb hK hP 2 1 rfl rfl (by unfold vp_in; decide) dX4_onA_56 ?_
        refine lv_sipush (v := 255) hx hb dX4_onA_57 (by decide) ?_
        refine lv_ixor hx hb dX4_onA_60 ?_
        refine va_iast hx hb hK hP hD hS 2 1 rfl rfl (by unfold vp_in; decide) dX4_onA_61 (fun H locs hP hD hS => ?_)
        obtain ⟨f13, ef13⟩ : ∃ f9 : Nat → Int32, f9 = upd w_bs (7 : Int32).toNatClampNeg ((w_bs (7 : Int32).toNatClampNeg) ^^^ (255 : Int32)) := ⟨_, rfl⟩
        have hf := hf.trans (kE1 ef13)
        have hP : va_P D vwCl (kX4 cB cI mo mb ma w_zf w_nf w_hf w_cf w_sp w_pc w_on w_wt w_ht w_bg w_cn w_al w_cl w_ie w_ww w_th w_mm f13) H := by rw [ef13]; exact hP
        have hD : va_D A (kX4 cB cI mo mb ma w_zf w_nf w_hf w_cf w_sp w_pc w_on w_wt w_ht w_bg w_cn w_al w_cl w_ie w_ww w_th w_mm f13) := by rw [ef13]; exact hD
        refine lv_aload_n hx hb dX4_onA_62 rfl (lv_at hl 0 rfl) ?_
        refine lv_iconst (v := 1) hx hb dX4_onA_63 (by decide) ?_
        refine va_put (D := D) (ci := 4) (v := .int (bI true)) (ty := .boolean) (C := RX4) (T := TX4) (N := 18) hx hb hws inlX4 tyX4 tyX4_ok nmX4 hown hK hP hD hS 0 rfl rfl 3 (by decide) (hws _ mw_452) (fun _ h9 => h9) rfl (tyX4_ok 3 (by decide)) (bI_nar _) (bI_fit _) (Nat.le_of_ble_eq_true rfl) dX4_onA_64 (fun H locs hP hD hS => ?_)
        have hP : va_P D vwCl (kX4 cB cI mo mb ma w_zf true w_hf w_cf w_sp w_pc w_on w_wt w_ht w_bg w_cn w_al w_cl w_ie w_ww w_th w_mm f13) H := hP
        have hD : va_D A (kX4 cB cI mo mb ma w_zf true w_hf w_cf w_sp w_pc w_on w_wt w_ht w_bg w_cn w_al w_cl w_ie w_ww w_th w_mm f13) := hD
        refine lv_aload_n hx hb dX4_onA_67 rfl (lv_at hl 0 rfl) ?_
        refine lv_iconst (v := 1) hx hb dX4_onA_68 (by decide) ?_
        refine va_put (D := D) (ci := 4) (v := .int (bI true)) (ty := .boolean) (C := RX4) (T := TX4) (N := 18) hx hb hws inlX4 tyX4 tyX4_ok nmX4 hown hK hP hD hS 0 rfl rfl 4 (by decide) (hws _ mw_453) (fun _ h9 => h9) rfl (tyX4_ok 4 (by decide)) (bI_nar _) (bI_fit _) (Nat.le_of_ble_eq_true rfl) dX4_onA_69 (fun H locs hP hD hS => ?_)
        have hP : va_P D vwCl (kX4 cB cI mo mb ma w_zf true true w_cf w_sp w_pc w_on w_wt w_ht w_bg w_cn w_al w_cl w_ie w_ww w_th w_mm f13) H := hP
        have hD : va_D A (kX4 cB cI mo mb ma w_zf true true w_cf w_sp w_pc w_on w_wt w_ht w_bg w_cn w_al w_cl w_ie w_ww w_th w_mm f13) := hD
        refine lv_goto (tgt := 103) hx hb dX4_onA_72 (by decide) ?_
        rw [← hQ]
        exact W.vret hx hb hr (fun t ht hW => ⟨⟨(w_zf, true, true, w_cf, f13), rfl, hf.symm, by rw [ht]; exact hP, va_K.moved hW.alike hK, hD⟩, hS.F ht⟩) hS.2.2 dX4_onA_103
    · have hf := hf.trans (kt_eq c2)
      refine lv_aload_n hx hb dX4_onA_37 rfl (lv_at hl 0 rfl) ?_
      refine kc_Vv (wr := []) (As := []) (rest := []) (fun u9 => (kX4 cB cI mo mb ma (u9.1) (u9.2.1) (u9.2.2.1) (u9.2.2.2.1) w_sp w_pc w_on w_wt w_ht w_bg w_cn w_al w_cl w_ie w_ww w_th w_mm (u9.2.2.2.2))) ⟨hx, hb, hml, hown, hws⟩ hK hP hD hS hA hT (c_X4_adjusts l D cB cI mo mb ma H.size w_zf w_nf w_hf w_cf w_sp w_pc w_on w_wt w_ht w_bg w_cn w_al w_cl w_ie w_ww w_th w_mm w_bs ) (cwV 0 hws (gw_V mw_490 mw_491 mw_492 mw_5 mw_493) rfl rfl rfl hdX4_adjusts ⟨Nat.le_of_ble_eq_true rfl, Nat.le_of_ble_eq_true rfl⟩) [0, 1, 2] [] [0, 1] [0, 1, 2] rfl rfl rfl rfl (by decide) rfl (fun _ => rfl) rfl 0 rfl rfl rfl rfl hl.1 rfl (Nat.le_of_ble_eq_true rfl) dX4_onA_38 ⟨Nat.zero_le _, Nat.zero_le _⟩ (fun u9 H locs hw19 hP hD hS => ?_)
      obtain ⟨b14, b15, b16, b17, b18⟩ := u9
      have hP : va_P D vwCl (kX4 cB cI mo mb ma b14 b15 b16 b17 w_sp w_pc w_on w_wt w_ht w_bg w_cn w_al w_cl w_ie w_ww w_th w_mm b18) H := hP
      have hD : va_D A (kX4 cB cI mo mb ma b14 b15 b16 b17 w_sp w_pc w_on w_wt w_ht w_bg w_cn w_al w_cl w_ie w_ww w_th w_mm b18) := hD
      have hf := hf.trans (kE5 hw19)
      refine lv_goto (tgt := 103) hx hb dX4_onA_41 (by decide) ?_
      rw [← hQ]
      exact W.vret hx hb hr (fun t ht hW => ⟨⟨(b14, b15, b16, b17, b18), rfl, hf.symm, by rw [ht]; exact hP, va_K.moved hW.alike hK, hD⟩, hS.F ht⟩) hS.2.2 dX4_onA_103
  · have hf := hf.trans (kf_le c1)
    refine lv_aload_n hx hb dX4_onA_5 rfl (lv_at hl 0 rfl) ?_
    refine va_get (D := D) (ci := 4) (v := .ref ma) (C := RX4) (T := TX4) (N := 18) hx hb hws inlX4 hown hK hP 0 rfl rfl 1 (by decide) (hws _ mw_45) (fun _ h9 => h9) rfl dX4_onA_6 ?_
    refine lv_bipush (v := 7) hx hb dX4_onA_9 (by decide) ?_
    refine lv_aload_n hx hb dX4_onA_11 rfl (lv_at hl 0 rfl) ?_
    refine lv_iload_n hx hb dX4_onA_12 rfl (lv_at hl 1 rfl) ?_
    refine lv_aload_n hx hb dX4_onA_13 rfl (lv_at hl 0 rfl) ?_
    refine va_get (D := D) (ci := 4) (v := .ref ma) (C := RX4) (T := TX4) (N := 18) hx hb hws inlX4 hown hK hP 0 rfl rfl 1 (by decide) (hws _ mw_45) (fun _ h9 => h9) rfl dX4_onA_14 ?_
    refine lv_bipush (v := 7) hx hb dX4_onA_17 (by decide) ?_
    refine va_iald hx hb hK hP 2 1 rfl rfl (by unfold vp_in; decide) dX4_onA_19 ?_
    refine kc_Vi (wr := []) (As := [.int a1, .int (w_bs (7 : Int32).toNatClampNeg)]) (rest := [.int (7 : Int32), .ref ma]) (fun u9 => (kX4 cB cI mo mb ma (u9.1) (u9.2.1) (u9.2.2.1) (u9.2.2.2) w_sp w_pc w_on w_wt w_ht w_bg w_cn w_al w_cl w_ie w_ww w_th w_mm w_bs)) ⟨hx, hb, hml, hown, hws⟩ hK hP hD hS hA hT (c_X4_turned l D cB cI mo mb ma H.size w_zf w_nf w_hf w_cf w_sp w_pc w_on w_wt w_ht w_bg w_cn w_al w_cl w_ie w_ww w_th w_mm w_bs a1 (w_bs (7 : Int32).toNatClampNeg)) (cwV 2 hws (gw_V mw_486 mw_487 mw_488 mw_5 mw_489) rfl rfl rfl hdX4_turned ⟨Nat.le_of_ble_eq_true rfl, Nat.le_of_ble_eq_true rfl⟩) [0, 1, 2] [] [0, 1] [0, 1, 2] rfl rfl rfl rfl (by decide) rfl (fun _ => rfl) rfl 0 rfl rfl rfl rfl hl.1 rfl (Nat.le_of_ble_eq_true rfl) dX4_onA_20 ⟨Nat.zero_le _, Nat.zero_le _⟩ (fun r25 u9 H locs hw24 hP hD hS => ?_)
    obtain ⟨b20, b21, b22, b23⟩ := u9
    have hP : va_P D vwCl (kX4 cB cI mo mb ma b20 b21 b22 b23 w_sp w_pc w_on w_wt w_ht w_bg w_cn w_al w_cl w_ie w_ww w_th w_mm w_bs) H := hP
    have hD : va_D A (kX4 cB cI mo mb ma b20 b21 b22 b23 w_sp w_pc w_on w_wt w_ht w_bg w_cn w_al w_cl w_ie w_ww w_th w_mm w_bs) := hD
    have hf := hf.trans (kE5 hw24)
    refine va_iast hx hb hK hP hD hS 2 1 rfl rfl (by unfold vp_in; decide) dX4_onA_23 (fun H locs hP hD hS => ?_)
    obtain ⟨f26, ef26⟩ : ∃ f9 : Nat → Int32, f9 = upd w_bs (7 : Int32).toNatClampNeg r25 := ⟨_, rfl⟩
    have hf := hf.trans (kE1 ef26)
    have hP : va_P D vwCl (kX4 cB cI mo mb ma b20 b21 b22 b23 w_sp w_pc w_on w_wt w_ht w_bg w_cn w_al w_cl w_ie w_ww w_th w_mm f26) H := by rw [ef26]; exact hP
    have hD : va_D A (kX4 cB cI mo mb ma b20 b21 b22 b23 w_sp w_pc w_on w_wt w_ht w_bg w_cn w_al w_cl w_ie w_ww w_th w_mm f26) := by rw [ef26]; exact hD
    refine lv_aload_n hx hb dX4_onA_24 rfl (lv_at hl 0 rfl) ?_
    refine lv_iconst (v := 0) hx hb dX4_onA_25 (by decide) ?_
    refine va_put (D := D) (ci := 4) (v := .int (bI false)) (ty := .boolean) (C := RX4) (T := TX4) (N := 18) hx hb hws inlX4 tyX4 tyX4_ok nmX4 hown hK hP hD hS 0 rfl rfl 2 (by decide) (hws _ mw_430) (fun _ h9 => h9) rfl (tyX4_ok 2 (by decide)) (bI_nar _) (bI_fit _) (Nat.le_of_ble_eq_true rfl) dX4_onA_26 (fun H locs hP hD hS => ?_)
    have hP : va_P D vwCl (kX4 cB cI mo mb ma false b21 b22 b23 w_sp w_pc w_on w_wt w_ht w_bg w_cn w_al w_cl w_ie w_ww w_th w_mm f26) H := hP
    have hD : va_D A (kX4 cB cI mo mb ma false b21 b22 b23 w_sp w_pc w_on w_wt w_ht w_bg w_cn w_al w_cl w_ie w_ww w_th w_mm f26) := hD
    refine lv_goto (tgt := 103) hx hb dX4_onA_29 (by decide) ?_
    rw [← hQ]
    exact W.vret hx hb hr (fun t ht hW => ⟨⟨(false, b21, b22, b23, f26), rfl, hf.symm, by rw [ht]; exact hP, va_K.moved hW.alike hK, hD⟩, hS.F ht⟩) hS.2.2 dX4_onA_103
def fX4_first (w_zf : Bool) (w_nf : Bool) (w_hf : Bool) (w_cf : Bool) (w_sp : Int32) (w_pc : Int32) (w_cn : Int32) (w_cl : Int32) (w_mm : Nat → Int32) (w_bs : Nat → Int32) (a1 : Int32) (a2 : Int32) : Bool × Bool × Bool × Bool × Int32 × Int32 × Int32 × Int32 × (Nat → Int32) × (Nat → Int32) := (kU1 ((a1 >>> ((1 : Int32) &&& (31 : Int32)))) (fun (x1 : Int32) => (kU1 (((kIf (kEq (a1 - a1 / (2 : Int32) * (2 : Int32)) (1 : Int32)) true false) : Bool)) (fun (z3 : Bool) => (kIf (kEq a2 (0 : Int32)) (kU4 (fX4_jumpsNear w_zf w_cf w_sp w_pc w_cn w_cl w_mm a1) (fun (b6 : Int32) (b7 : Int32) (b8 : Int32) (b9 : Nat → Int32) => (w_zf, w_nf, w_hf, w_cf, w_sp, b6, b7, b8, b9, w_bs))) (kIf (kEq a2 (1 : Int32)) (kIf (kEq (bI z3) (0 : Int32)) (kU3 (fX4_fetchWord w_pc w_cl w_mm) (fun (r16 : Int32) (b13 : Int32) (b14 : Int32) => (kU2 (fX4_setWide w_sp w_bs x1 r16) (fun (b17 : Int32) (b18 : Nat → Int32) => (w_zf, w_nf, w_hf, w_cf, b17, b13, w_cn, b14, w_mm, b18))))) (kU6 (fX4_addsPair w_zf w_nf w_hf w_cf w_sp w_cl w_bs x1) (fun (b20 : Bool) (b21 : Bool) (b22 : Bool) (b23 : Bool) (b24 : Int32) (b25 : Nat → Int32) => (b20, b21, b22, b23, w_sp, w_pc, w_cn, b24, w_mm, b25)))) (kIf (kEq a2 (2 : Int32)) (kU4 (fX4_byPair w_cn w_cl w_mm w_bs x1 z3) (fun (b28 : Int32) (b29 : Int32) (b30 : Nat → Int32) (b31 : Nat → Int32) => (w_zf, w_nf, w_hf, w_cf, w_sp, w_pc, b28, b29, b30, b31))) (kIf (kEq a2 (3 : Int32)) (kU1 ((w_cl + (1 : Int32))) (fun (x34 : Int32) => (kU1 (fX4_wide w_sp w_bs x1) (fun (r36 : Int32) => (kU1 (((kIf (kEq (bI z3) (0 : Int32)) (1 : Int32) (-1 : Int32)) : Int32)) (fun (x38 : Int32) => (kU2 (fX4_setWide w_sp w_bs x1 ((r36 + x38) &&& (65535 : Int32))) (fun (b40 : Int32) (b41 : Nat → Int32) => (w_zf, w_nf, w_hf, w_cf, b40, w_pc, w_cn, x34, w_mm, b41))))))))) (kIf (kEq a2 (4 : Int32)) (kU2 (fX4_operand w_cl w_mm w_bs a1) (fun (r46 : Int32) (b44 : Int32) => (kU5 (fX4_increased w_zf w_nf w_hf w_cf r46) (fun (r52 : Int32) (b47 : Bool) (b48 : Bool) (b49 : Bool) (b50 : Bool) => (kU4 (fX4_setOperand w_cn b44 w_mm w_bs a1 r52) (fun (b53 : Int32) (b54 : Int32) (b55 : Nat → Int32) (b56 : Nat → Int32) => (b47, b48, b49, b50, w_sp, w_pc, b53, b54, b55, b56))))))) (kIf (kEq a2 (5 : Int32)) (kU2 (fX4_operand w_cl w_mm w_bs a1) (fun (r61 : Int32) (b59 : Int32) => (kU5 (fX4_decreased w_zf w_nf w_hf w_cf r61) (fun (r67 : Int32) (b62 : Bool) (b63 : Bool) (b64 : Bool) (b65 : Bool) => (kU4 (fX4_setOperand w_cn b59 w_mm w_bs a1 r67) (fun (b68 : Int32) (b69 : Int32) (b70 : Nat → Int32) (b71 : Nat → Int32) => (b62, b63, b64, b65, w_sp, w_pc, b68, b69, b70, b71))))))) (kIf (kEq a2 (6 : Int32)) (kU3 (fX4_fetch w_pc w_cl w_mm) (fun (r77 : Int32) (b74 : Int32) (b75 : Int32) => (kU4 (fX4_setOperand w_cn b75 w_mm w_bs a1 r77) (fun (b78 : Int32) (b79 : Int32) (b80 : Nat → Int32) (b81 : Nat → Int32) => (w_zf, w_nf, w_hf, w_cf, w_sp, b74, b78, b79, b80, b81))))) (kU5 (fX4_onA w_zf w_nf w_hf w_cf w_bs a1) (fun (b83 : Bool) (b84 : Bool) (b85 : Bool) (b86 : Bool) (b87 : Nat → Int32) => (b83, b84, b85, b86, w_sp, w_pc, w_cn, w_cl, w_mm, b87))))))))))))))
def rmX4_first : Room := { frames := 5, cells := 0, slots := 0, locals := 106 }
def wwX4_first : List Cond := Cond.code yX4_first cX4_first 5 none :: wsL_law
theorem hdX4_first : yX4_first.cls = RX4 ∧ yX4_first.cls ≠ "java/lang/invoke/MethodHandle" ∧ yX4_first.cls ≠ "java/lang/invoke/VarHandle" ∧ (parseMethodDescriptor yX4_first.desc).map (fun d => d.parameters.length) = some 2 := by decide +kernel
set_option maxHeartbeats 4000000 in
set_option maxRecDepth 100000 in
theorem c_X4_first (l : Launch) (D : va_G) (cB : ClassId) (cI : ClassId) (mo mb ma sz : Nat) (w_zf : Bool) (w_nf : Bool) (w_hf : Bool) (w_cf : Bool) (w_sp : Int32) (w_pc : Int32) (w_on : Bool) (w_wt : Bool) (w_ht : Bool) (w_bg : Bool) (w_cn : Int32) (w_al : Int32) (w_cl : Int32) (w_ie : Bool) (w_ww : Bool) (w_th : Int32) (w_mm : Nat → Int32) (w_bs : Nat → Int32) (a1 : Int32) (a2 : Int32) (hpre1 : vp_in a1 8) : Met l yX4_first wwX4_first rmX4_first (va_Pc [.ref mo, .int a1, .int a2] (kp D (kX4 cB cI mo mb ma w_zf w_nf w_hf w_cf w_sp w_pc w_on w_wt w_ht w_bg w_cn w_al w_cl w_ie w_ww w_th w_mm w_bs) [(cB, .byte), (cI, .int)] sz)) (va_Qv (fun (u9 : Bool × Bool × Bool × Bool × Int32 × Int32 × Int32 × Int32 × (Nat → Int32) × (Nat → Int32)) => u9 = fX4_first w_zf w_nf w_hf w_cf w_sp w_pc w_cn w_cl w_mm w_bs a1 a2) (fun u9 t => kq D (kX4 cB cI mo mb ma (u9.1) (u9.2.1) (u9.2.2.1) (u9.2.2.2.1) (u9.2.2.2.2.1) (u9.2.2.2.2.2.1) w_on w_wt w_ht w_bg (u9.2.2.2.2.2.2.1) w_al (u9.2.2.2.2.2.2.2.1) w_ie w_ww w_th (u9.2.2.2.2.2.2.2.2.1) (u9.2.2.2.2.2.2.2.2.2)) [(cB, .byte), (cI, .int)] (va_A (kX4 cB cI mo mb ma w_zf w_nf w_hf w_cf w_sp w_pc w_on w_wt w_ht w_bg w_cn w_al w_cl w_ie w_ww w_th w_mm w_bs) sz) t) (va_A (kX4 cB cI mo mb ma w_zf w_nf w_hf w_cf w_sp w_pc w_on w_wt w_ht w_bg w_cn w_al w_cl w_ie w_ww w_th w_mm w_bs) sz)) 0 0 (va_A (kX4 cB cI mo mb ma w_zf w_nf w_hf w_cf w_sp w_pc w_on w_wt w_ht w_bg w_cn w_al w_cl w_ie w_ww w_th w_mm w_bs) sz) := by
  refine Met.ofW (cc := cX4_first) (maxL := 5) (ret := none) (by decide) rfl ?_
  intro p e s m args below meth c s₁ B hml hv
  obtain ⟨rfl, hsz, hP, hK, hD0, hT⟩ := hv
  have hx := B.exec
  have hb := B.bytes
  have hr := B.returns
  have hts := atoms_spec (ws := wwX4_first) B.pre
  have hws : ∀ w ∈ wsL_law, w.before _ s = true := fun w h => hts w (List.mem_cons_of_mem _ h)
  have hown : s.vm.findClass RX4 = some m.cls := findClass_of_methodNamed B.named
  have hlocks := B.notSynchronized
  subst hsz
  have hD := hD0.self (sz := s.heap.size)
  generalize hAe : va_A (kX4 cB cI mo mb ma w_zf w_nf w_hf w_cf w_sp w_pc w_on w_wt w_ht w_bg w_cn w_al w_cl w_ie w_ww w_th w_mm w_bs) s.heap.size = A at hD hT ⊢
  have hA : ∀ q : Nat, s.heap.size ≤ q → A q := fun q h => by rw [← hAe]; exact Or.inr h
  have hS : va_S A s.heap s.heap [] := va_S.rf
  have hl := lv_entry ([.ref mo, .int a1, .int a2]) (n := 5) (Nat.le_of_ble_eq_true rfl)
  rw [lg_entry_eq]
  generalize (lg_sl ([.ref mo, .int a1, .int a2]) ++ List.replicate (5 - (lg_sl ([.ref mo, .int a1, .int a2])).length) Slot.unset).toArray = ls at hl ⊢
  have hl : lv_has ls 5 [(0, .ref mo), (1, .int a1), (2, .int a2)] := hl
  generalize hQ : MQ _ _ _ _ _ _ _ = Q
  obtain ⟨H, hHe⟩ : ∃ H : Heap, H = s.heap := ⟨_, rfl⟩
  obtain ⟨locs, hle⟩ : ∃ L : List Loc, L = [] := ⟨_, rfl⟩
  have hP : va_P D vwCl (kX4 cB cI mo mb ma w_zf w_nf w_hf w_cf w_sp w_pc w_on w_wt w_ht w_bg w_cn w_al w_cl w_ie w_ww w_th w_mm w_bs) H := by rw [hHe]; exact hP
  have hS : va_S A s.heap H locs := by rw [hHe, hle]; exact hS
  refine kw_start hHe.symm hle.symm ?_
  have hf : fX4_first w_zf w_nf w_hf w_cf w_sp w_pc w_cn w_cl w_mm w_bs a1 a2 = fX4_first w_zf w_nf w_hf w_cf w_sp w_pc w_cn w_cl w_mm w_bs a1 a2 := rfl
  refine lv_iload_n hx hb dX4_first_0 rfl (lv_at hl 1 rfl) ?_
  refine lv_iconst (v := 1) hx hb dX4_first_1 (by decide) ?_
  refine lv_ishr hx hb dX4_first_2 ?_
  refine lv_topi (fun x1 ex1 => ?_)
  have hf := hf.trans (kE1 ex1)
  refine lv_istore_n (lv' := [(3, .int x1), (0, .ref mo), (1, .int a1), (2, .int a2)]) hx hb dX4_first_3 rfl hl (by decide) rfl (fun ls hl => ?_)
  refine lv_iload_n hx hb dX4_first_4 rfl (lv_at hl 2 rfl) ?_
  refine lv_iconst (v := 2) hx hb dX4_first_5 (by decide) ?_
  refine lv_irem hx hb dX4_first_6 (by decide) ?_
  refine lv_iconst (v := 1) hx hb dX4_first_7 (by decide) ?_
  obtain ⟨TJ4, hTJ4⟩ : ∃ T9 : Bool, T9 = (kIf (kEq (a1 - a1 / (2 : Int32) * (2 : Int32)) (1 : Int32)) true false) := ⟨_, rfl⟩
  have J4 : ∀ (z3 : Bool), z3 = TJ4 → ∀ (H : Heap) (locs : List Loc) (ls : Array Slot), lv_has ls 5 [(3, .int x1), (0, .ref mo), (1, .int a1), (2, .int a2)] → va_P D vwCl (kX4 cB cI mo mb ma w_zf w_nf w_hf w_cf w_sp w_pc w_on w_wt w_ht w_bg w_cn w_al w_cl w_ie w_ww w_th w_mm w_bs) H → va_D A (kX4 cB cI mo mb ma w_zf w_nf w_hf w_cf w_sp w_pc w_on w_wt w_ht w_bg w_cn w_al w_cl w_ie w_ww w_th w_mm w_bs) → va_S A s.heap H locs → W p l e (headSpec wwX4_first rmX4_first).room s m ([.ref mo, .int a1, .int a2] : List Value).toArray below meth c H locs 0 0 Q (F0 m 16 ls [.int (bI z3)]) := by
    intro z3 eJ4 H locs ls hl hP hD hS
    have hf := hf.trans (kE1 (eJ4.trans hTJ4))
    refine lv_istore (lv' := [(4, .int (bI z3)), (3, .int x1), (0, .ref mo), (1, .int a1), (2, .int a2)]) hx hb dX4_first_16 hl (by decide) rfl (fun ls hl => ?_)
    refine lv_iload_n hx hb dX4_first_18 rfl (lv_at hl 4 rfl) ?_
    by_cases c5 : a2 = (0 : Int32)
    · have hf := hf.trans (kt_eq c5)
      refine lv_tableIn (off := 41) (tgt := 60) hx hb dX4_first_19 (by rw [c5]; decide) (by rw [c5]; decide) (by rw [c5]; decide) (by decide) ?_
      refine lv_aload_n hx hb dX4_first_60 rfl (lv_at hl 2 rfl) ?_
      refine lv_iload_n hx hb dX4_first_61 rfl (lv_at hl 3 rfl) ?_
      refine kc_Vv (wr := []) (As := [.int a1]) (rest := []) (fun u9 => (kX4 cB cI mo mb ma w_zf w_nf w_hf w_cf w_sp (u9.1) w_on w_wt w_ht w_bg (u9.2.1) w_al (u9.2.2.1) w_ie w_ww w_th (u9.2.2.2) w_bs)) ⟨hx, hb, hml, hown, hws⟩ hK hP hD hS hA hT (c_X4_jumpsNear l D cB cI mo mb ma H.size w_zf w_nf w_hf w_cf w_sp w_pc w_on w_wt w_ht w_bg w_cn w_al w_cl w_ie w_ww w_th w_mm w_bs a1) (cwV 1 hws (gw_V mw_414 mw_415 mw_416 mw_5 mw_417) rfl rfl rfl hdX4_jumpsNear ⟨Nat.le_of_ble_eq_true rfl, Nat.le_of_ble_eq_true rfl⟩) [0, 1, 2] [] [0, 1] [0, 1, 2] rfl rfl rfl rfl (by decide) rfl (fun _ => rfl) rfl 0 rfl rfl rfl rfl hl.1 rfl (Nat.le_of_ble_eq_true rfl) dX4_first_62 ⟨Nat.zero_le _, Nat.zero_le _⟩ (fun u9 H locs hw10 hP hD hS => ?_)
      obtain ⟨b6, b7, b8, b9⟩ := u9
      have hP : va_P D vwCl (kX4 cB cI mo mb ma w_zf w_nf w_hf w_cf w_sp b6 w_on w_wt w_ht w_bg b7 w_al b8 w_ie w_ww w_th b9 w_bs) H := hP
      have hD : va_D A (kX4 cB cI mo mb ma w_zf w_nf w_hf w_cf w_sp b6 w_on w_wt w_ht w_bg b7 w_al b8 w_ie w_ww w_th b9 w_bs) := hD
      have hf := hf.trans (kE4 hw10)
      refine lv_goto (tgt := 191) hx hb dX4_first_65 (by decide) ?_
      rw [← hQ]
      exact W.vret hx hb hr (fun t ht hW => ⟨⟨(w_zf, w_nf, w_hf, w_cf, w_sp, b6, b7, b8, b9, w_bs), rfl, hf.symm, by rw [ht]; exact hP, va_K.moved hW.alike hK, hD⟩, hS.F ht⟩) hS.2.2 dX4_first_191
    · have hf := hf.trans (kf_eq c5)
      by_cases c11 : a2 = (1 : Int32)
      · have hf := hf.trans (kt_eq c11)
        refine lv_tableIn (off := 49) (tgt := 68) hx hb dX4_first_19 (by rw [c11]; decide) (by rw [c11]; decide) (by rw [c11]; decide) (by decide) ?_
        refine lv_iload hx hb dX4_first_68 (lv_at hl 0 rfl) ?_
        refine lv_if_eq (tgt := 81) hx hb dX4_first_70 (by decide) (fun c12 => ?_) (fun c12 => ?_)
        · have hf := hf.trans (kt_eq c12)
          refine lv_aload_n hx hb dX4_first_81 rfl (lv_at hl 2 rfl) ?_
          refine lv_iload_n hx hb dX4_first_82 rfl (lv_at hl 1 rfl) ?_
          refine lv_aload_n hx hb dX4_first_83 rfl (lv_at hl 2 rfl) ?_
          refine kc_Vi (wr := []) (As := []) (rest := [.int x1, .ref mo]) (fun u9 => (kX4 cB cI mo mb ma w_zf w_nf w_hf w_cf w_sp (u9.1) w_on w_wt w_ht w_bg w_cn w_al (u9.2) w_ie w_ww w_th w_mm w_bs)) ⟨hx, hb, hml, hown, hws⟩ hK hP hD hS hA hT (c_X4_fetchWord l D cB cI mo mb ma H.size w_zf w_nf w_hf w_cf w_sp w_pc w_on w_wt w_ht w_bg w_cn w_al w_cl w_ie w_ww w_th w_mm w_bs ) (cwV 0 hws (gw_V mw_418 mw_419 mw_420 mw_5 mw_421) rfl rfl rfl hdX4_fetchWord ⟨Nat.le_of_ble_eq_true rfl, Nat.le_of_ble_eq_true rfl⟩) [0, 1, 2] [] [0, 1] [0, 1, 2] rfl rfl rfl rfl (by decide) rfl (fun _ => rfl) rfl 0 rfl rfl rfl rfl hl.1 rfl (Nat.le_of_ble_eq_true rfl) dX4_first_84 ⟨Nat.zero_le _, Nat.zero_le _⟩ (fun r16 u9 H locs hw15 hP hD hS => ?_)
          obtain ⟨b13, b14⟩ := u9
          have hP : va_P D vwCl (kX4 cB cI mo mb ma w_zf w_nf w_hf w_cf w_sp b13 w_on w_wt w_ht w_bg w_cn w_al b14 w_ie w_ww w_th w_mm w_bs) H := hP
          have hD : va_D A (kX4 cB cI mo mb ma w_zf w_nf w_hf w_cf w_sp b13 w_on w_wt w_ht w_bg w_cn w_al b14 w_ie w_ww w_th w_mm w_bs) := hD
          have hf := hf.trans (kE3 hw15)
          refine kc_Vv (wr := []) (As := [.int x1, .int r16]) (rest := []) (fun u9 => (kX4 cB cI mo mb ma w_zf w_nf w_hf w_cf (u9.1) b13 w_on w_wt w_ht w_bg w_cn w_al b14 w_ie w_ww w_th w_mm (u9.2))) ⟨hx, hb, hml, hown, hws⟩ hK hP hD hS hA hT (c_X4_setWide l D cB cI mo mb ma H.size w_zf w_nf w_hf w_cf w_sp b13 w_on w_wt w_ht w_bg w_cn w_al b14 w_ie w_ww w_th w_mm w_bs x1 r16 (by rw [ex1]; exact (ki_sh1 hpre1))) (cwV 2 hws (gw_V mw_458 mw_459 mw_460 mw_5 mw_461) rfl rfl rfl hdX4_setWide ⟨Nat.le_of_ble_eq_true rfl, Nat.le_of_ble_eq_true rfl⟩) [0, 1, 2] [] [0, 1] [0, 1, 2] rfl rfl rfl rfl (by decide) rfl (fun _ => rfl) rfl 0 rfl rfl rfl rfl hl.1 rfl (Nat.le_of_ble_eq_true rfl) dX4_first_87 ⟨Nat.zero_le _, Nat.zero_le _⟩ (fun u9 H locs hw19 hP hD hS => ?_)
          obtain ⟨b17, b18⟩ := u9
          have hP : va_P D vwCl (kX4 cB cI mo mb ma w_zf w_nf w_hf w_cf b17 b13 w_on w_wt w_ht w_bg w_cn w_al b14 w_ie w_ww w_th w_mm b18) H := hP
          have hD : va_D A (kX4 cB cI mo mb ma w_zf w_nf w_hf w_cf b17 b13 w_on w_wt w_ht w_bg w_cn w_al b14 w_ie w_ww w_th w_mm b18) := hD
          have hf := hf.trans (kE2 hw19)
          refine lv_goto (tgt := 191) hx hb dX4_first_90 (by decide) ?_
          rw [← hQ]
          exact W.vret hx hb hr (fun t ht hW => ⟨⟨(w_zf, w_nf, w_hf, w_cf, b17, b13, w_cn, b14, w_mm, b18), rfl, hf.symm, by rw [ht]; exact hP, va_K.moved hW.alike hK, hD⟩, hS.F ht⟩) hS.2.2 dX4_first_191
        · have hf := hf.trans (kf_eq c12)
          refine lv_aload_n hx hb dX4_first_73 rfl (lv_at hl 2 rfl) ?_
          refine lv_iload_n hx hb dX4_first_74 rfl (lv_at hl 1 rfl) ?_
          refine kc_Vv (wr := []) (As := [.int x1]) (rest := []) (fun u9 => (kX4 cB cI mo mb ma (u9.1) (u9.2.1) (u9.2.2.1) (u9.2.2.2.1) w_sp w_pc w_on w_wt w_ht w_bg w_cn w_al (u9.2.2.2.2.1) w_ie w_ww w_th w_mm (u9.2.2.2.2.2))) ⟨hx, hb, hml, hown, hws⟩ hK hP hD hS hA hT (c_X4_addsPair l D cB cI mo mb ma H.size w_zf w_nf w_hf w_cf w_sp w_pc w_on w_wt w_ht w_bg w_cn w_al w_cl w_ie w_ww w_th w_mm w_bs x1 (by rw [ex1]; exact (ki_sh1 hpre1))) (cwV 1 hws (gw_V mw_432 mw_433 mw_434 mw_5 mw_435) rfl rfl rfl hdX4_addsPair ⟨Nat.le_of_ble_eq_true rfl, Nat.le_of_ble_eq_true rfl⟩) [0, 1, 2] [] [0, 1] [0, 1, 2] rfl rfl rfl rfl (by decide) rfl (fun _ => rfl) rfl 0 rfl rfl rfl rfl hl.1 rfl (Nat.le_of_ble_eq_true rfl) dX4_first_75 ⟨Nat.zero_le _, Nat.zero_le _⟩ (fun u9 H locs hw26 hP hD hS => ?_)
          obtain ⟨b20, b21, b22, b23, b24, b25⟩ := u9
          have hP : va_P D vwCl (kX4 cB cI mo mb ma b20 b21 b22 b23 w_sp w_pc w_on w_wt w_ht w_bg w_cn w_al b24 w_ie w_ww w_th w_mm b25) H := hP
          have hD : va_D A (kX4 cB cI mo mb ma b20 b21 b22 b23 w_sp w_pc w_on w_wt w_ht w_bg w_cn w_al b24 w_ie w_ww w_th w_mm b25) := hD
          have hf := hf.trans (kE6 hw26)
          refine lv_goto (tgt := 191) hx hb dX4_first_78 (by decide) ?_
          rw [← hQ]
          exact W.vret hx hb hr (fun t ht hW => ⟨⟨(b20, b21, b22, b23, w_sp, w_pc, w_cn, b24, w_mm, b25), rfl, hf.symm, by rw [ht]; exact hP, va_K.moved hW.alike hK, hD⟩, hS.F ht⟩) hS.2.2 dX4_first_191
      · have hf := hf.trans (kf_eq c11)
        by_cases c27 : a2 = (2 : Int32)
        · have hf := hf.trans (kt_eq c27)
          refine lv_tableIn (off := 74) (tgt := 93) hx hb dX4_first_19 (by rw [c27]; decide) (by rw [c27]; decide) (by rw [c27]; decide) (by decide) ?_
          refine lv_aload_n hx hb dX4_first_93 rfl (lv_at hl 2 rfl) ?_
          refine lv_iload_n hx hb dX4_first_94 rfl (lv_at hl 1 rfl) ?_
          refine lv_iload hx hb dX4_first_95 (lv_at hl 0 rfl) ?_
          refine kc_Vv (wr := []) (As := [.int x1, .int (bI z3)]) (rest := []) (fun u9 => (kX4 cB cI mo mb ma w_zf w_nf w_hf w_cf w_sp w_pc w_on w_wt w_ht w_bg (u9.1) w_al (u9.2.1) w_ie w_ww w_th (u9.2.2.1) (u9.2.2.2))) ⟨hx, hb, hml, hown, hws⟩ hK hP hD hS hA hT (c_X4_byPair l D cB cI mo mb ma H.size w_zf w_nf w_hf w_cf w_sp w_pc w_on w_wt w_ht w_bg w_cn w_al w_cl w_ie w_ww w_th w_mm w_bs x1 z3 (by rw [ex1]; exact (ki_sh1 hpre1))) (cwV 2 hws (gw_V mw_462 mw_463 mw_464 mw_5 mw_465) rfl rfl rfl hdX4_byPair ⟨Nat.le_of_ble_eq_true rfl, Nat.le_of_ble_eq_true rfl⟩) [0, 1, 2] [] [0, 1] [0, 1, 2] rfl rfl rfl rfl (by decide) rfl (fun _ => rfl) rfl 0 rfl rfl rfl rfl hl.1 rfl (Nat.le_of_ble_eq_true rfl) dX4_first_97 ⟨Nat.zero_le _, Nat.zero_le _⟩ (fun u9 H locs hw32 hP hD hS => ?_)
          obtain ⟨b28, b29, b30, b31⟩ := u9
          have hP : va_P D vwCl (kX4 cB cI mo mb ma w_zf w_nf w_hf w_cf w_sp w_pc w_on w_wt w_ht w_bg b28 w_al b29 w_ie w_ww w_th b30 b31) H := hP
          have hD : va_D A (kX4 cB cI mo mb ma w_zf w_nf w_hf w_cf w_sp w_pc w_on w_wt w_ht w_bg b28 w_al b29 w_ie w_ww w_th b30 b31) := hD
          have hf := hf.trans (kE4 hw32)
          refine lv_goto (tgt := 191) hx hb dX4_first_100 (by decide) ?_
          rw [← hQ]
          exact W.vret hx hb hr (fun t ht hW => ⟨⟨(w_zf, w_nf, w_hf, w_cf, w_sp, w_pc, b28, b29, b30, b31), rfl, hf.symm, by rw [ht]; exact hP, va_K.moved hW.alike hK, hD⟩, hS.F ht⟩) hS.2.2 dX4_first_191
        · have hf := hf.trans (kf_eq c27)
          by_cases c33 : a2 = (3 : Int32)
          · have hf := hf.trans (kt_eq c33)
            refine lv_tableIn (off := 84) (tgt := 103) hx hb dX4_first_19 (by rw [c33]; decide) (by rw [c33]; decide) (by rw [c33]; decide) (by decide) ?_
            refine lv_aload_n hx hb dX4_first_103 rfl (lv_at hl 2 rfl) ?_
            refine lv_dup hx hb dX4_first_104 rfl ?_
            refine va_get (D := D) (ci := 4) (v := .int w_cl) (C := RX4) (T := TX4) (N := 18) hx hb hws inlX4 hown hK hP 0 rfl rfl 14 (by decide) (hws _ mw_367) (fun _ h9 => h9) rfl dX4_first_105 ?_
            refine lv_iconst (v := 1) hx hb dX4_first_108 (by decide) ?_
            refine lv_iadd hx hb dX4_first_109 ?_
            refine lv_topi (fun x34 ex34 => ?_)
            have hf := hf.trans (kE1 ex34)
            refine va_put (D := D) (ci := 4) (v := .int x34) (ty := .int) (C := RX4) (T := TX4) (N := 18) hx hb hws inlX4 tyX4 tyX4_ok nmX4 hown hK hP hD hS 0 rfl rfl 14 (by decide) (hws _ mw_367) (fun _ h9 => h9) rfl (tyX4_ok 14 (by decide)) rfl rfl (Nat.le_of_ble_eq_true rfl) dX4_first_110 (fun H locs hP hD hS => ?_)
            have hP : va_P D vwCl (kX4 cB cI mo mb ma w_zf w_nf w_hf w_cf w_sp w_pc w_on w_wt w_ht w_bg w_cn w_al x34 w_ie w_ww w_th w_mm w_bs) H := hP
            have hD : va_D A (kX4 cB cI mo mb ma w_zf w_nf w_hf w_cf w_sp w_pc w_on w_wt w_ht w_bg w_cn w_al x34 w_ie w_ww w_th w_mm w_bs) := hD
            refine lv_aload_n hx hb dX4_first_113 rfl (lv_at hl 2 rfl) ?_
            refine lv_iload_n hx hb dX4_first_114 rfl (lv_at hl 1 rfl) ?_
            refine lv_aload_n hx hb dX4_first_115 rfl (lv_at hl 2 rfl) ?_
            refine lv_iload_n hx hb dX4_first_116 rfl (lv_at hl 1 rfl) ?_
            refine kc_Vi (wr := []) (As := [.int x1]) (rest := [.int x1, .ref mo]) (fun _ => (kX4 cB cI mo mb ma w_zf w_nf w_hf w_cf w_sp w_pc w_on w_wt w_ht w_bg w_cn w_al x34 w_ie w_ww w_th w_mm w_bs)) ⟨hx, hb, hml, hown, hws⟩ hK hP hD hS hA hT (c_X4_wide l D cB cI mo mb ma H.size w_zf w_nf w_hf w_cf w_sp w_pc w_on w_wt w_ht w_bg w_cn w_al x34 w_ie w_ww w_th w_mm w_bs x1 (by rw [ex1]; exact (ki_sh1 hpre1))) (cwV 1 hws (gw_V mw_440 mw_441 mw_442 mw_5 mw_443) rfl rfl rfl hdX4_wide ⟨Nat.le_of_ble_eq_true rfl, Nat.le_of_ble_eq_true rfl⟩) [0, 1, 2] [] [0, 1] [0, 1, 2] rfl rfl rfl rfl (by decide) rfl (fun _ => rfl) rfl 0 rfl rfl rfl rfl hl.1 rfl (Nat.le_of_ble_eq_true rfl) dX4_first_117 ⟨Nat.zero_le _, Nat.zero_le _⟩ (fun r36 _ H locs hw35 hP hD hS => ?_)
            have hP : va_P D vwCl (kX4 cB cI mo mb ma w_zf w_nf w_hf w_cf w_sp w_pc w_on w_wt w_ht w_bg w_cn w_al x34 w_ie w_ww w_th w_mm w_bs) H := hP
            have hD : va_D A (kX4 cB cI mo mb ma w_zf w_nf w_hf w_cf w_sp w_pc w_on w_wt w_ht w_bg w_cn w_al x34 w_ie w_ww w_th w_mm w_bs) := hD
            have hf := hf.trans (kE1 hw35)
            refine lv_iload hx hb dX4_first_120 (lv_at hl 0 rfl) ?_
            obtain ⟨TJ39, hTJ39⟩ : ∃ T9 : Int32, T9 = (kIf (kEq (bI z3) (0 : Int32)) (1 : Int32) (-1 : Int32)) := ⟨_, rfl⟩
            have J39 : ∀ (x38 : Int32), x38 = TJ39 → ∀ (H : Heap) (locs : List Loc) (ls : Array Slot), lv_has ls 5 [(4, .int (bI z3)), (3, .int x1), (0, .ref mo), (1, .int a1), (2, .int a2)] → va_P D vwCl (kX4 cB cI mo mb ma w_zf w_nf w_hf w_cf w_sp w_pc w_on w_wt w_ht w_bg w_cn w_al x34 w_ie w_ww w_th w_mm w_bs) H → va_D A (kX4 cB cI mo mb ma w_zf w_nf w_hf w_cf w_sp w_pc w_on w_wt w_ht w_bg w_cn w_al x34 w_ie w_ww w_th w_mm w_bs) → va_S A s.heap H locs → W p l e (headSpec wwX4_first rmX4_first).room s m ([.ref mo, .int a1, .int a2] : List Value).toArray below meth c H locs 0 0 Q (F0 m 130 ls [.int x38, .int r36, .int x1, .ref mo]) := by
              intro x38 eJ39 H locs ls hl hP hD hS
              have hf := hf.trans (kE1 (eJ39.trans hTJ39))
              refine lv_iadd hx hb dX4_first_130 ?_
              refine lv_ldc (v := 65535) hx hb hown (hws _ mw_61) dX4_first_131 ?_
              refine lv_iand hx hb dX4_first_133 ?_
              refine kc_Vv (wr := []) (As := [.int x1, .int ((r36 + x38) &&& (65535 : Int32))]) (rest := []) (fun u9 => (kX4 cB cI mo mb ma w_zf w_nf w_hf w_cf (u9.1) w_pc w_on w_wt w_ht w_bg w_cn w_al x34 w_ie w_ww w_th w_mm (u9.2))) ⟨hx, hb, hml, hown, hws⟩ hK hP hD hS hA hT (c_X4_setWide l D cB cI mo mb ma H.size w_zf w_nf w_hf w_cf w_sp w_pc w_on w_wt w_ht w_bg w_cn w_al x34 w_ie w_ww w_th w_mm w_bs x1 ((r36 + x38) &&& (65535 : Int32)) (by rw [ex1]; exact (ki_sh1 hpre1))) (cwV 2 hws (gw_V mw_458 mw_459 mw_460 mw_5 mw_461) rfl rfl rfl hdX4_setWide ⟨Nat.le_of_ble_eq_true rfl, Nat.le_of_ble_eq_true rfl⟩) [0, 1, 2] [] [0, 1] [0, 1, 2] rfl rfl rfl rfl (by decide) rfl (fun _ => rfl) rfl 0 rfl rfl rfl rfl hl.1 rfl (Nat.le_of_ble_eq_true rfl) dX4_first_134 ⟨Nat.zero_le _, Nat.zero_le _⟩ (fun u9 H locs hw42 hP hD hS => ?_)
              obtain ⟨b40, b41⟩ := u9
              have hP : va_P D vwCl (kX4 cB cI mo mb ma w_zf w_nf w_hf w_cf b40 w_pc w_on w_wt w_ht w_bg w_cn w_al x34 w_ie w_ww w_th w_mm b41) H := hP
              have hD : va_D A (kX4 cB cI mo mb ma w_zf w_nf w_hf w_cf b40 w_pc w_on w_wt w_ht w_bg w_cn w_al x34 w_ie w_ww w_th w_mm b41) := hD
              have hf := hf.trans (kE2 hw42)
              refine lv_goto (tgt := 191) hx hb dX4_first_137 (by decide) ?_
              rw [← hQ]
              exact W.vret hx hb hr (fun t ht hW => ⟨⟨(w_zf, w_nf, w_hf, w_cf, b40, w_pc, w_cn, x34, w_mm, b41), rfl, hf.symm, by rw [ht]; exact hP, va_K.moved hW.alike hK, hD⟩, hS.F ht⟩) hS.2.2 dX4_first_191
            have hf := hTJ39
            refine lv_if_eq (tgt := 129) hx hb dX4_first_122 (by decide) (fun c37 => ?_) (fun c37 => ?_)
            · have hf := hf.trans (kt_eq c37)
              refine lv_iconst (v := 1) hx hb dX4_first_129 (by decide) ?_
              exact J39 (1 : Int32) hf.symm H locs ls (lv_sub hl [0, 1, 2, 3, 4] rfl) hP hD hS
            · have hf := hf.trans (kf_eq c37)
              refine lv_iconst (v := -1) hx hb dX4_first_125 (by decide) ?_
              refine lv_goto (tgt := 130) hx hb dX4_first_126 (by decide) ?_
              exact J39 (-1 : Int32) hf.symm H locs ls (lv_sub hl [0, 1, 2, 3, 4] rfl) hP hD hS
          · have hf := hf.trans (kf_eq c33)
            by_cases c43 : a2 = (4 : Int32)
            · have hf := hf.trans (kt_eq c43)
              refine lv_tableIn (off := 121) (tgt := 140) hx hb dX4_first_19 (by rw [c43]; decide) (by rw [c43]; decide) (by rw [c43]; decide) (by decide) ?_
              refine lv_aload_n hx hb dX4_first_140 rfl (lv_at hl 2 rfl) ?_
              refine lv_iload_n hx hb dX4_first_141 rfl (lv_at hl 3 rfl) ?_
              refine lv_aload_n hx hb dX4_first_142 rfl (lv_at hl 2 rfl) ?_
              refine lv_aload_n hx hb dX4_first_143 rfl (lv_at hl 2 rfl) ?_
              refine lv_iload_n hx hb dX4_first_144 rfl (lv_at hl 3 rfl) ?_
              refine kc_Vi (wr := []) (As := [.int a1]) (rest := [.ref mo, .int a1, .ref mo]) (fun u9 => (kX4 cB cI mo mb ma w_zf w_nf w_hf w_cf w_sp w_pc w_on w_wt w_ht w_bg w_cn w_al u9 w_ie w_ww w_th w_mm w_bs)) ⟨hx, hb, hml, hown, hws⟩ hK hP hD hS hA hT (c_X4_operand l D cB cI mo mb ma H.size w_zf w_nf w_hf w_cf w_sp w_pc w_on w_wt w_ht w_bg w_cn w_al w_cl w_ie w_ww w_th w_mm w_bs a1 hpre1) (cwV 1 hws (gw_V mw_466 mw_467 mw_468 mw_5 mw_469) rfl rfl rfl hdX4_operand ⟨Nat.le_of_ble_eq_true rfl, Nat.le_of_ble_eq_true rfl⟩) [0, 1, 2] [] [0, 1] [0, 1, 2] rfl rfl rfl rfl (by decide) rfl (fun _ => rfl) rfl 0 rfl rfl rfl rfl hl.1 rfl (Nat.le_of_ble_eq_true rfl) dX4_first_145 ⟨Nat.zero_le _, Nat.zero_le _⟩ (fun r46 b44 H locs hw45 hP hD hS => ?_)
              have hP : va_P D vwCl (kX4 cB cI mo mb ma w_zf w_nf w_hf w_cf w_sp w_pc w_on w_wt w_ht w_bg w_cn w_al b44 w_ie w_ww w_th w_mm w_bs) H := hP
              have hD : va_D A (kX4 cB cI mo mb ma w_zf w_nf w_hf w_cf w_sp w_pc w_on w_wt w_ht w_bg w_cn w_al b44 w_ie w_ww w_th w_mm w_bs) := hD
              have hf := hf.trans (kE2 hw45)
              refine kc_Vi (wr := []) (As := [.int r46]) (rest := [.int a1, .ref mo]) (fun u9 => (kX4 cB cI mo mb ma (u9.1) (u9.2.1) (u9.2.2.1) (u9.2.2.2) w_sp w_pc w_on w_wt w_ht w_bg w_cn w_al b44 w_ie w_ww w_th w_mm w_bs)) ⟨hx, hb, hml, hown, hws⟩ hK hP hD hS hA hT (c_X4_increased l D cB cI mo mb ma H.size w_zf w_nf w_hf w_cf w_sp w_pc w_on w_wt w_ht w_bg w_cn w_al b44 w_ie w_ww w_th w_mm w_bs r46) (cwV 1 hws (gw_V mw_470 mw_471 mw_472 mw_5 mw_473) rfl rfl rfl hdX4_increased ⟨Nat.le_of_ble_eq_true rfl, Nat.le_of_ble_eq_true rfl⟩) [0, 1, 2] [] [0, 1] [0, 1, 2] rfl rfl rfl rfl (by decide) rfl (fun _ => rfl) rfl 0 rfl rfl rfl rfl hl.1 rfl (Nat.le_of_ble_eq_true rfl) dX4_first_148 ⟨Nat.zero_le _, Nat.zero_le _⟩ (fun r52 u9 H locs hw51 hP hD hS => ?_)
              obtain ⟨b47, b48, b49, b50⟩ := u9
              have hP : va_P D vwCl (kX4 cB cI mo mb ma b47 b48 b49 b50 w_sp w_pc w_on w_wt w_ht w_bg w_cn w_al b44 w_ie w_ww w_th w_mm w_bs) H := hP
              have hD : va_D A (kX4 cB cI mo mb ma b47 b48 b49 b50 w_sp w_pc w_on w_wt w_ht w_bg w_cn w_al b44 w_ie w_ww w_th w_mm w_bs) := hD
              have hf := hf.trans (kE5 hw51)
              refine kc_Vv (wr := []) (As := [.int a1, .int r52]) (rest := []) (fun u9 => (kX4 cB cI mo mb ma b47 b48 b49 b50 w_sp w_pc w_on w_wt w_ht w_bg (u9.1) w_al (u9.2.1) w_ie w_ww w_th (u9.2.2.1) (u9.2.2.2))) ⟨hx, hb, hml, hown, hws⟩ hK hP hD hS hA hT (c_X4_setOperand l D cB cI mo mb ma H.size b47 b48 b49 b50 w_sp w_pc w_on w_wt w_ht w_bg w_cn w_al b44 w_ie w_ww w_th w_mm w_bs a1 r52 hpre1) (cwV 2 hws (gw_V mw_474 mw_475 mw_476 mw_5 mw_477) rfl rfl rfl hdX4_setOperand ⟨Nat.le_of_ble_eq_true rfl, Nat.le_of_ble_eq_true rfl⟩) [0, 1, 2] [] [0, 1] [0, 1, 2] rfl rfl rfl rfl (by decide) rfl (fun _ => rfl) rfl 0 rfl rfl rfl rfl hl.1 rfl (Nat.le_of_ble_eq_true rfl) dX4_first_151 ⟨Nat.zero_le _, Nat.zero_le _⟩ (fun u9 H locs hw57 hP hD hS => ?_)
              obtain ⟨b53, b54, b55, b56⟩ := u9
              have hP : va_P D vwCl (kX4 cB cI mo mb ma b47 b48 b49 b50 w_sp w_pc w_on w_wt w_ht w_bg b53 w_al b54 w_ie w_ww w_th b55 b56) H := hP
              have hD : va_D A (kX4 cB cI mo mb ma b47 b48 b49 b50 w_sp w_pc w_on w_wt w_ht w_bg b53 w_al b54 w_ie w_ww w_th b55 b56) := hD
              have hf := hf.trans (kE4 hw57)
              refine lv_goto (tgt := 191) hx hb dX4_first_154 (by decide) ?_
              rw [← hQ]
              exact W.vret hx hb hr (fun t ht hW => ⟨⟨(b47, b48, b49, b50, w_sp, w_pc, b53, b54, b55, b56), rfl, hf.symm, by rw [ht]; exact hP, va_K.moved hW.alike hK, hD⟩, hS.F ht⟩) hS.2.2 dX4_first_191
            · have hf := hf.trans (kf_eq c43)
              by_cases c58 : a2 = (5 : Int32)
              · have hf := hf.trans (kt_eq c58)
                refine lv_tableIn (off := 138) (tgt := 157) hx hb dX4_first_19 (by rw [c58]; decide) (by rw [c58]; decide) (by rw [c58]; decide) (by decide) ?_
                refine lv_aload_n hx hb dX4_first_157 rfl (lv_at hl 2 rfl) ?_
                refine lv_iload_n hx hb dX4_first_158 rfl (lv_at hl 3 rfl) ?_
                refine lv_aload_n hx hb dX4_first_159 rfl (lv_at hl 2 rfl) ?_
                refine lv_aload_n hx hb dX4_first_160 rfl (lv_at hl 2 rfl) ?_
                refine lv_iload_n hx hb dX4_first_161 rfl (lv_at hl 3 rfl) ?_
                refine kc_Vi (wr := []) (As := [.int a1]) (rest := [.ref mo, .int a1, .ref mo]) (fun u9 => (kX4 cB cI mo mb ma w_zf w_nf w_hf w_cf w_sp w_pc w_on w_wt w_ht w_bg w_cn w_al u9 w_ie w_ww w_th w_mm w_bs)) ⟨hx, hb, hml, hown, hws⟩ hK hP hD hS hA hT (c_X4_operand l D cB cI mo mb ma H.size w_zf w_nf w_hf w_cf w_sp w_pc w_on w_wt w_ht w_bg w_cn w_al w_cl w_ie w_ww w_th w_mm w_bs a1 hpre1) (cwV 1 hws (gw_V mw_466 mw_467 mw_468 mw_5 mw_469) rfl rfl rfl hdX4_operand ⟨Nat.le_of_ble_eq_true rfl, Nat.le_of_ble_eq_true rfl⟩) [0, 1, 2] [] [0, 1] [0, 1, 2] rfl rfl rfl rfl (by decide) rfl (fun _ => rfl) rfl 0 rfl rfl rfl rfl hl.1 rfl (Nat.le_of_ble_eq_true rfl) dX4_first_162 ⟨Nat.zero_le _, Nat.zero_le _⟩ (fun r61 b59 H locs hw60 hP hD hS => ?_)
                have hP : va_P D vwCl (kX4 cB cI mo mb ma w_zf w_nf w_hf w_cf w_sp w_pc w_on w_wt w_ht w_bg w_cn w_al b59 w_ie w_ww w_th w_mm w_bs) H := hP
                have hD : va_D A (kX4 cB cI mo mb ma w_zf w_nf w_hf w_cf w_sp w_pc w_on w_wt w_ht w_bg w_cn w_al b59 w_ie w_ww w_th w_mm w_bs) := hD
                have hf := hf.trans (kE2 hw60)
                refine kc_Vi (wr := []) (As := [.int r61]) (rest := [.int a1, .ref mo]) (fun u9 => (kX4 cB cI mo mb ma (u9.1) (u9.2.1) (u9.2.2.1) (u9.2.2.2) w_sp w_pc w_on w_wt w_ht w_bg w_cn w_al b59 w_ie w_ww w_th w_mm w_bs)) ⟨hx, hb, hml, hown, hws⟩ hK hP hD hS hA hT (c_X4_decreased l D cB cI mo mb ma H.size w_zf w_nf w_hf w_cf w_sp w_pc w_on w_wt w_ht w_bg w_cn w_al b59 w_ie w_ww w_th w_mm w_bs r61) (cwV 1 hws (gw_V mw_478 mw_479 mw_480 mw_5 mw_481) rfl rfl rfl hdX4_decreased ⟨Nat.le_of_ble_eq_true rfl, Nat.le_of_ble_eq_true rfl⟩) [0, 1, 2] [] [0, 1] [0, 1, 2] rfl rfl rfl rfl (by decide) rfl (fun _ => rfl) rfl 0 rfl rfl rfl rfl hl.1 rfl (Nat.le_of_ble_eq_true rfl) dX4_first_165 ⟨Nat.zero_le _, Nat.zero_le _⟩ (fun r67 u9 H locs hw66 hP hD hS => ?_)
                obtain ⟨b62, b63, b64, b65⟩ := u9
                have hP : va_P D vwCl (kX4 cB cI mo mb ma b62 b63 b64 b65 w_sp w_pc w_on w_wt w_ht w_bg w_cn w_al b59 w_ie w_ww w_th w_mm w_bs) H := hP
                have hD : va_D A (kX4 cB cI mo mb ma b62 b63 b64 b65 w_sp w_pc w_on w_wt w_ht w_bg w_cn w_al b59 w_ie w_ww w_th w_mm w_bs) := hD
                have hf := hf.trans (kE5 hw66)
                refine kc_Vv (wr := []) (As := [.int a1, .int r67]) (rest := []) (fun u9 => (kX4 cB cI mo mb ma b62 b63 b64 b65 w_sp w_pc w_on w_wt w_ht w_bg (u9.1) w_al (u9.2.1) w_ie w_ww w_th (u9.2.2.1) (u9.2.2.2))) ⟨hx, hb, hml, hown, hws⟩ hK hP hD hS hA hT (c_X4_setOperand l D cB cI mo mb ma H.size b62 b63 b64 b65 w_sp w_pc w_on w_wt w_ht w_bg w_cn w_al b59 w_ie w_ww w_th w_mm w_bs a1 r67 hpre1) (cwV 2 hws (gw_V mw_474 mw_475 mw_476 mw_5 mw_477) rfl rfl rfl hdX4_setOperand ⟨Nat.le_of_ble_eq_true rfl, Nat.le_of_ble_eq_true rfl⟩) [0, 1, 2] [] [0, 1] [0, 1, 2] rfl rfl rfl rfl (by decide) rfl (fun _ => rfl) rfl 0 rfl rfl rfl rfl hl.1 rfl (Nat.le_of_ble_eq_true rfl) dX4_first_168 ⟨Nat.zero_le _, Nat.zero_le _⟩ (fun u9 H locs hw72 hP hD hS => ?_)
                obtain ⟨b68, b69, b70, b71⟩ := u9
                have hP : va_P D vwCl (kX4 cB cI mo mb ma b62 b63 b64 b65 w_sp w_pc w_on w_wt w_ht w_bg b68 w_al b69 w_ie w_ww w_th b70 b71) H := hP
                have hD : va_D A (kX4 cB cI mo mb ma b62 b63 b64 b65 w_sp w_pc w_on w_wt w_ht w_bg b68 w_al b69 w_ie w_ww w_th b70 b71) := hD
                have hf := hf.trans (kE4 hw72)
                refine lv_goto (tgt := 191) hx hb dX4_first_171 (by decide) ?_
                rw [← hQ]
                exact W.vret hx hb hr (fun t ht hW => ⟨⟨(b62, b63, b64, b65, w_sp, w_pc, b68, b69, b70, b71), rfl, hf.symm, by rw [ht]; exact hP, va_K.moved hW.alike hK, hD⟩, hS.F ht⟩) hS.2.2 dX4_first_191
              · have hf := hf.trans (kf_eq c58)
                by_cases c73 : a2 = (6 : Int32)
                · have hf := hf.trans (kt_eq c73)
                  refine lv_tableIn (off := 155) (tgt := 174) hx hb dX4_first_19 (by rw [c73]; decide) (by rw [c73]; decide) (by rw [c73]; decide) (by decide) ?_
                  refine lv_aload_n hx hb dX4_first_174 rfl (lv_at hl 2 rfl) ?_
                  refine lv_iload_n hx hb dX4_first_175 rfl (lv_at hl 3 rfl) ?_
                  refine lv_aload_n hx hb dX4_first_176 rfl (lv_at hl 2 rfl) ?_
                  refine kc_Vi (wr := []) (As := []) (rest := [.int a1, .ref mo]) (fun u9 => (kX4 cB cI mo mb ma w_zf w_nf w_hf w_cf w_sp (u9.1) w_on w_wt w_ht w_bg w_cn w_al (u9.2) w_ie w_ww w_th w_mm w_bs)) ⟨hx, hb, hml, hown, hws⟩ hK hP hD hS hA hT (c_X4_fetch l D cB cI mo mb ma H.size w_zf w_nf w_hf w_cf w_sp w_pc w_on w_wt w_ht w_bg w_cn w_al w_cl w_ie w_ww w_th w_mm w_bs ) (cwV 0 hws (gw_V mw_422 mw_423 mw_424 mw_5 mw_425) rfl rfl rfl hdX4_fetch ⟨Nat.le_of_ble_eq_true rfl, Nat.le_of_ble_eq_true rfl⟩) [0, 1, 2] [] [0, 1] [0, 1, 2] rfl rfl rfl rfl (by decide) rfl (fun _ => rfl) rfl 0 rfl rfl rfl rfl hl.1 rfl (Nat.le_of_ble_eq_true rfl) dX4_first_177 ⟨Nat.zero_le _, Nat.zero_le _⟩ (fun r77 u9 H locs hw76 hP hD hS => ?_)
                  obtain ⟨b74, b75⟩ := u9
                  have hP : va_P D vwCl (kX4 cB cI mo mb ma w_zf w_nf w_hf w_cf w_sp b74 w_on w_wt w_ht w_bg w_cn w_al b75 w_ie w_ww w_th w_mm w_bs) H := hP
                  have hD : va_D A (kX4 cB cI mo mb ma w_zf w_nf w_hf w_cf w_sp b74 w_on w_wt w_ht w_bg w_cn w_al b75 w_ie w_ww w_th w_mm w_bs) := hD
                  have hf := hf.trans (kE3 hw76)
                  refine kc_Vv (wr := []) (As := [.int a1, .int r77]) (rest := []) (fun u9 => (kX4 cB cI mo mb ma w_zf w_nf w_hf w_cf w_sp b74 w_on w_wt w_ht w_bg (u9.1) w_al (u9.2.1) w_ie w_ww w_th (u9.2.2.1) (u9.2.2.2))) ⟨hx, hb, hml, hown, hws⟩ hK hP hD hS hA hT (c_X4_setOperand l D cB cI mo mb ma H.size w_zf w_nf w_hf w_cf w_sp b74 w_on w_wt w_ht w_bg w_cn w_al b75 w_ie w_ww w_th w_mm w_bs a1 r77 hpre1) (cwV 2 hws (gw_V mw_474 mw_475 mw_476 mw_5 mw_477) rfl rfl rfl hdX4_setOperand ⟨Nat.le_of_ble_eq_true rfl, Nat.le_of_ble_eq_true rfl⟩) [0, 1, 2] [] [0, 1] [0, 1, 2] rfl rfl rfl rfl (by decide) rfl (fun _ => rfl) rfl 0 rfl rfl rfl rfl hl.1 rfl (Nat.le_of_ble_eq_true rfl) dX4_first_180 ⟨Nat.zero_le _, Nat.zero_le _⟩ (fun u9 H locs hw82 hP hD hS => ?_)
                  obtain ⟨b78, b79, b80, b81⟩ := u9
                  have hP : va_P D vwCl (kX4 cB cI mo mb ma w_zf w_nf w_hf w_cf w_sp b74 w_on w_wt w_ht w_bg b78 w_al b79 w_ie w_ww w_th b80 b81) H := hP
                  have hD : va_D A (kX4 cB cI mo mb ma w_zf w_nf w_hf w_cf w_sp b74 w_on w_wt w_ht w_bg b78 w_al b79 w_ie w_ww w_th b80 b81) := hD
                  have hf := hf.trans (kE4 hw82)
                  refine lv_goto (tgt := 191) hx hb dX4_first_183 (by decide) ?_
                  rw [← hQ]
                  exact W.vret hx hb hr (fun t ht hW => ⟨⟨(w_zf, w_nf, w_hf, w_cf, w_sp, b74, b78, b79, b80, b81), rfl, hf.symm, by rw [ht]; exact hP, va_K.moved hW.alike hK, hD⟩, hS.F ht⟩) hS.2.2 dX4_first_191
                · have hf := hf.trans (kf_eq c73)
                  refine lv_tableOut (tgt := 186) hx hb dX4_first_19 (by have n0 := lv_neT c5 (a := 0) rfl; have n1 := lv_neT c11 (a := 1) rfl; have n2 := lv_neT c27 (a := 2) rfl; have n3 := lv_neT c33 (a := 3) rfl; have n4 := lv_neT c43 (a := 4) rfl; have n5 := lv_neT c58 (a := 5) rfl; have n6 := lv_neT c73 (a := 6) rfl; omega) (by decide) ?_
                  refine lv_aload_n hx hb dX4_first_186 rfl (lv_at hl 2 rfl) ?_
                  refine lv_iload_n hx hb dX4_first_187 rfl (lv_at hl 3 rfl) ?_
                  refine kc_Vv (wr := []) (As := [.int a1]) (rest := []) (fun u9 => (kX4 cB cI mo mb ma (u9.1) (u9.2.1) (u9.2.2.1) (u9.2.2.2.1) w_sp w_pc w_on w_wt w_ht w_bg w_cn w_al w_cl w_ie w_ww w_th w_mm (u9.2.2.2.2))) ⟨hx, hb, hml, hown, hws⟩ hK hP hD hS hA hT (c_X4_onA l D cB cI mo mb ma H.size w_zf w_nf w_hf w_cf w_sp w_pc w_on w_wt w_ht w_bg w_cn w_al w_cl w_ie w_ww w_th w_mm w_bs a1) (cwV 1 hws (gw_V mw_482 mw_483 mw_484 mw_5 mw_485) rfl rfl rfl hdX4_onA ⟨Nat.le_of_ble_eq_true rfl, Nat.le_of_ble_eq_true rfl⟩) [0, 1, 2] [] [0, 1] [0, 1, 2] rfl rfl rfl rfl (by decide) rfl (fun _ => rfl) rfl 0 rfl rfl rfl rfl hl.1 rfl (Nat.le_of_ble_eq_true rfl) dX4_first_188 ⟨Nat.zero_le _, Nat.zero_le _⟩ (fun u9 H locs hw88 hP hD hS => ?_)
                  obtain ⟨b83, b84, b85, b86, b87⟩ := u9
                  have hP : va_P D vwCl (kX4 cB cI mo mb ma b83 b84 b85 b86 w_sp w_pc w_on w_wt w_ht w_bg w_cn w_al w_cl w_ie w_ww w_th w_mm b87) H := hP
                  have hD : va_D A (kX4 cB cI mo mb ma b83 b84 b85 b86 w_sp w_pc w_on w_wt w_ht w_bg w_cn w_al w_cl w_ie w_ww w_th w_mm b87) := hD
                  have hf := hf.trans (kE5 hw88)
                  rw [← hQ]
                  exact W.vret hx hb hr (fun t ht hW => ⟨⟨(b83, b84, b85, b86, w_sp, w_pc, w_cn, w_cl, w_mm, b87), rfl, hf.symm, by rw [ht]; exact hP, va_K.moved hW.alike hK, hD⟩, hS.F ht⟩) hS.2.2 dX4_first_191
  have hf := hTJ4
  refine lv_icmp_ne (tgt := 15) hx hb dX4_first_8 (by decide) (fun c2 => ?_) (fun c2 => ?_)
  · have hf := hf.trans (kf_eq c2)
    refine lv_iconst (v := 0) hx hb dX4_first_15 (by decide) ?_
    exact J4 false hf.symm H locs ls (lv_sub hl [0, 1, 2, 3] rfl) hP hD hS
  · have hf := hf.trans (kt_eq c2)
    refine lv_iconst (v := 1) hx hb dX4_first_11 (by decide) ?_
    refine lv_goto (tgt := 16) hx hb dX4_first_12 (by decide) ?_
    exact J4 true hf.symm H locs ls (lv_sub hl [0, 1, 2, 3] rfl) hP hD hS
def fX4_halts (w_pc : Int32) (w_on : Bool) (w_ht : Bool) (w_bg : Bool) (w_ww : Bool) (w_mm : Nat → Int32) (a1 : Int32) : Int32 × Bool × Bool := (kU1 (fX4_at w_mm (65535 : Int32)) (fun (r2 : Int32) => (kU1 (fX4_at w_mm (65295 : Int32)) (fun (r4 : Int32) => (kIf (kEq ((r2 &&& r4) &&& (31 : Int32)) (0 : Int32)) (w_pc, true, w_bg) (kIf (kEq (bI w_on) (0 : Int32)) (kIf (kEq (bI w_ww) (0 : Int32)) (w_pc, w_ht, true) (a1, w_ht, w_bg)) (w_pc, true, w_bg)))))))
def rmX4_halts : Room := { frames := 1, cells := 0, slots := 0, locals := 21 }
def wwX4_halts : List Cond := Cond.code yX4_halts cX4_halts 2 none :: wsL_law
theorem hdX4_halts : yX4_halts.cls = RX4 ∧ yX4_halts.cls ≠ "java/lang/invoke/MethodHandle" ∧ yX4_halts.cls ≠ "java/lang/invoke/VarHandle" ∧ (parseMethodDescriptor yX4_halts.desc).map (fun d => d.parameters.length) = some 1 := by decide +kernel
set_option maxHeartbeats 4000000 in
set_option maxRecDepth 100000 in
theorem c_X4_halts (l : Launch) (D : va_G) (cB : ClassId) (cI : ClassId) (mo mb ma sz : Nat) (w_zf : Bool) (w_nf : Bool) (w_hf : Bool) (w_cf : Bool) (w_sp : Int32) (w_pc : Int32) (w_on : Bool) (w_wt : Bool) (w_ht : Bool) (w_bg : Bool) (w_cn : Int32) (w_al : Int32) (w_cl : Int32) (w_ie : Bool) (w_ww : Bool) (w_th : Int32) (w_mm : Nat → Int32) (w_bs : Nat → Int32) (a1 : Int32)  : Met l yX4_halts wwX4_halts rmX4_halts (va_Pc [.ref mo, .int a1] (kp D (kX4 cB cI mo mb ma w_zf w_nf w_hf w_cf w_sp w_pc w_on w_wt w_ht w_bg w_cn w_al w_cl w_ie w_ww w_th w_mm w_bs) [(cB, .byte), (cI, .int)] sz)) (va_Qv (fun (u9 : Int32 × Bool × Bool) => u9 = fX4_halts w_pc w_on w_ht w_bg w_ww w_mm a1) (fun u9 t => kq D (kX4 cB cI mo mb ma w_zf w_nf w_hf w_cf w_sp (u9.1) w_on w_wt (u9.2.1) (u9.2.2) w_cn w_al w_cl w_ie w_ww w_th w_mm w_bs) [(cB, .byte), (cI, .int)] (va_A (kX4 cB cI mo mb ma w_zf w_nf w_hf w_cf w_sp w_pc w_on w_wt w_ht w_bg w_cn w_al w_cl w_ie w_ww w_th w_mm w_bs) sz) t) (va_A (kX4 cB cI mo mb ma w_zf w_nf w_hf w_cf w_sp w_pc w_on w_wt w_ht w_bg w_cn w_al w_cl w_ie w_ww w_th w_mm w_bs) sz)) 0 0 (va_A (kX4 cB cI mo mb ma w_zf w_nf w_hf w_cf w_sp w_pc w_on w_wt w_ht w_bg w_cn w_al w_cl w_ie w_ww w_th w_mm w_bs) sz) := by
  refine Met.ofW (cc := cX4_halts) (maxL := 2) (ret := none) (by decide) rfl ?_
  intro p e s m args below meth c s₁ B hml hv
  obtain ⟨rfl, hsz, hP, hK, hD0, hT⟩ := hv
  have hx := B.exec
  have hb := B.bytes
  have hr := B.returns
  have hts := atoms_spec (ws := wwX4_halts) B.pre
  have hws : ∀ w ∈ wsL_law, w.before _ s = true := fun w h => hts w (List.mem_cons_of_mem _ h)
  have hown : s.vm.findClass RX4 = some m.cls := findClass_of_methodNamed B.named
  have hlocks := B.notSynchronized
  subst hsz
  have hD := hD0.self (sz := s.heap.size)
  generalize hAe : va_A (kX4 cB cI mo mb ma w_zf w_nf w_hf w_cf w_sp w_pc w_on w_wt w_ht w_bg w_cn w_al w_cl w_ie w_ww w_th w_mm w_bs) s.heap.size = A at hD hT ⊢
  have hA : ∀ q : Nat, s.heap.size ≤ q → A q := fun q h => by rw [← hAe]; exact Or.inr h
  have hS : va_S A s.heap s.heap [] := va_S.rf
  have hl := lv_entry ([.ref mo, .int a1]) (n := 2) (Nat.le_of_ble_eq_true rfl)
  rw [lg_entry_eq]
  generalize (lg_sl ([.ref mo, .int a1]) ++ List.replicate (2 - (lg_sl ([.ref mo, .int a1])).length) Slot.unset).toArray = ls at hl ⊢
  have hl : lv_has ls 2 [(0, .ref mo), (1, .int a1)] := hl
  generalize hQ : MQ _ _ _ _ _ _ _ = Q
  obtain ⟨H, hHe⟩ : ∃ H : Heap, H = s.heap := ⟨_, rfl⟩
  obtain ⟨locs, hle⟩ : ∃ L : List Loc, L = [] := ⟨_, rfl⟩
  have hP : va_P D vwCl (kX4 cB cI mo mb ma w_zf w_nf w_hf w_cf w_sp w_pc w_on w_wt w_ht w_bg w_cn w_al w_cl w_ie w_ww w_th w_mm w_bs) H := by rw [hHe]; exact hP
  have hS : va_S A s.heap H locs := by rw [hHe, hle]; exact hS
  refine kw_start hHe.symm hle.symm ?_
  have hf : fX4_halts w_pc w_on w_ht w_bg w_ww w_mm a1 = fX4_halts w_pc w_on w_ht w_bg w_ww w_mm a1 := rfl
  refine lv_aload_n hx hb dX4_halts_0 rfl (lv_at hl 0 rfl) ?_
  refine lv_ldc (v := 65535) hx hb hown (hws _ mw_61) dX4_halts_1 ?_
  refine kc_Vi (wr := []) (As := [.int (65535 : Int32)]) (rest := []) (fun _ => (kX4 cB cI mo mb ma w_zf w_nf w_hf w_cf w_sp w_pc w_on w_wt w_ht w_bg w_cn w_al w_cl w_ie w_ww w_th w_mm w_bs)) ⟨hx, hb, hml, hown, hws⟩ hK hP hD hS hA hT (c_X4_at l D cB cI mo mb ma H.size w_zf w_nf w_hf w_cf w_sp w_pc w_on w_wt w_ht w_bg w_cn w_al w_cl w_ie w_ww w_th w_mm w_bs (65535 : Int32)) (cwV 1 hws (gw_V mw_93 mw_94 mw_95 mw_5 mw_96) rfl rfl rfl hdX4_at ⟨Nat.le_of_ble_eq_true rfl, Nat.le_of_ble_eq_true rfl⟩) [0, 1, 2] [] [0, 1] [0, 1, 2] rfl rfl rfl rfl (by decide) rfl (fun _ => rfl) rfl 0 rfl rfl rfl rfl hl.1 rfl (Nat.le_of_ble_eq_true rfl) dX4_halts_3 ⟨Nat.zero_le _, Nat.zero_le _⟩ (fun r2 _ H locs hw1 hP hD hS => ?_)
  have hP : va_P D vwCl (kX4 cB cI mo mb ma w_zf w_nf w_hf w_cf w_sp w_pc w_on w_wt w_ht w_bg w_cn w_al w_cl w_ie w_ww w_th w_mm w_bs) H := hP
  have hD : va_D A (kX4 cB cI mo mb ma w_zf w_nf w_hf w_cf w_sp w_pc w_on w_wt w_ht w_bg w_cn w_al w_cl w_ie w_ww w_th w_mm w_bs) := hD
  have hf := hf.trans (kE1 hw1)
  refine lv_aload_n hx hb dX4_halts_6 rfl (lv_at hl 0 rfl) ?_
  refine lv_ldc (v := 65295) hx hb hown (hws _ mw_366) dX4_halts_7 ?_
  refine kc_Vi (wr := []) (As := [.int (65295 : Int32)]) (rest := [.int r2]) (fun _ => (kX4 cB cI mo mb ma w_zf w_nf w_hf w_cf w_sp w_pc w_on w_wt w_ht w_bg w_cn w_al w_cl w_ie w_ww w_th w_mm w_bs)) ⟨hx, hb, hml, hown, hws⟩ hK hP hD hS hA hT (c_X4_at l D cB cI mo mb ma H.size w_zf w_nf w_hf w_cf w_sp w_pc w_on w_wt w_ht w_bg w_cn w_al w_cl w_ie w_ww w_th w_mm w_bs (65295 : Int32)) (cwV 1 hws (gw_V mw_93 mw_94 mw_95 mw_5 mw_96) rfl rfl rfl hdX4_at ⟨Nat.le_of_ble_eq_true rfl, Nat.le_of_ble_eq_true rfl⟩) [0, 1, 2] [] [0, 1] [0, 1, 2] rfl rfl rfl rfl (by decide) rfl (fun _ => rfl) rfl 0 rfl rfl rfl rfl hl.1 rfl (Nat.le_of_ble_eq_true rfl) dX4_halts_9 ⟨Nat.zero_le _, Nat.zero_le _⟩ (fun r4 _ H locs hw3 hP hD hS => ?_)
  have hP : va_P D vwCl (kX4 cB cI mo mb ma w_zf w_nf w_hf w_cf w_sp w_pc w_on w_wt w_ht w_bg w_cn w_al w_cl w_ie w_ww w_th w_mm w_bs) H := hP
  have hD : va_D A (kX4 cB cI mo mb ma w_zf w_nf w_hf w_cf w_sp w_pc w_on w_wt w_ht w_bg w_cn w_al w_cl w_ie w_ww w_th w_mm w_bs) := hD
  have hf := hf.trans (kE1 hw3)
  refine lv_iand hx hb dX4_halts_12 ?_
  refine lv_bipush (v := 31) hx hb dX4_halts_13 (by decide) ?_
  refine lv_iand hx hb dX4_halts_15 ?_
  refine lv_if_eq (tgt := 26) hx hb dX4_halts_16 (by decide) (fun c5 => ?_) (fun c5 => ?_)
  · have hf := hf.trans (kt_eq c5)
    refine lv_aload_n hx hb dX4_halts_26 rfl (lv_at hl 0 rfl) ?_
    refine lv_iconst (v := 1) hx hb dX4_halts_27 (by decide) ?_
    refine va_put (D := D) (ci := 4) (v := .int (bI true)) (ty := .boolean) (C := RX4) (T := TX4) (N := 18) hx hb hws inlX4 tyX4 tyX4_ok nmX4 hown hK hP hD hS 0 rfl rfl 10 (by decide) (hws _ mw_369) (fun _ h9 => h9) rfl (tyX4_ok 10 (by decide)) (bI_nar _) (bI_fit _) (Nat.le_of_ble_eq_true rfl) dX4_halts_28 (fun H locs hP hD hS => ?_)
    have hP : va_P D vwCl (kX4 cB cI mo mb ma w_zf w_nf w_hf w_cf w_sp w_pc w_on w_wt true w_bg w_cn w_al w_cl w_ie w_ww w_th w_mm w_bs) H := hP
    have hD : va_D A (kX4 cB cI mo mb ma w_zf w_nf w_hf w_cf w_sp w_pc w_on w_wt true w_bg w_cn w_al w_cl w_ie w_ww w_th w_mm w_bs) := hD
    refine lv_goto (tgt := 54) hx hb dX4_halts_31 (by decide) ?_
    rw [← hQ]
    exact W.vret hx hb hr (fun t ht hW => ⟨⟨(w_pc, true, w_bg), rfl, hf.symm, by rw [ht]; exact hP, va_K.moved hW.alike hK, hD⟩, hS.F ht⟩) hS.2.2 dX4_halts_54
  · have hf := hf.trans (kf_eq c5)
    refine lv_aload_n hx hb dX4_halts_19 rfl (lv_at hl 0 rfl) ?_
    refine va_get (D := D) (ci := 4) (v := .int (bI w_on)) (C := RX4) (T := TX4) (N := 18) hx hb hws inlX4 hown hK hP 0 rfl rfl 8 (by decide) (hws _ mw_368) (fun _ h9 => h9) rfl dX4_halts_20 ?_
    refine lv_if_eq (tgt := 34) hx hb dX4_halts_23 (by decide) (fun c6 => ?_) (fun c6 => ?_)
    · have hf := hf.trans (kt_eq c6)
      refine lv_aload_n hx hb dX4_halts_34 rfl (lv_at hl 0 rfl) ?_
      refine va_get (D := D) (ci := 4) (v := .int (bI w_ww)) (C := RX4) (T := TX4) (N := 18) hx hb hws inlX4 hown hK hP 0 rfl rfl 16 (by decide) (hws _ mw_372) (fun _ h9 => h9) rfl dX4_halts_35 ?_
      refine lv_if_eq (tgt := 49) hx hb dX4_halts_38 (by decide) (fun c7 => ?_) (fun c7 => ?_)
      · have hf := hf.trans (kt_eq c7)
        refine lv_aload_n hx hb dX4_halts_49 rfl (lv_at hl 0 rfl) ?_
        refine lv_iconst (v := 1) hx hb dX4_halts_50 (by decide) ?_
        refine va_put (D := D) (ci := 4) (v := .int (bI true)) (ty := .boolean) (C := RX4) (T := TX4) (N := 18) hx hb hws inlX4 tyX4 tyX4_ok nmX4 hown hK hP hD hS 0 rfl rfl 11 (by decide) (hws _ mw_405) (fun _ h9 => h9) rfl (tyX4_ok 11 (by decide)) (bI_nar _) (bI_fit _) (Nat.le_of_ble_eq_true rfl) dX4_halts_51 (fun H locs hP hD hS => ?_)
        have hP : va_P D vwCl (kX4 cB cI mo mb ma w_zf w_nf w_hf w_cf w_sp w_pc w_on w_wt w_ht true w_cn w_al w_cl w_ie w_ww w_th w_mm w_bs) H := hP
        have hD : va_D A (kX4 cB cI mo mb ma w_zf w_nf w_hf w_cf w_sp w_pc w_on w_wt w_ht true w_cn w_al w_cl w_ie w_ww w_th w_mm w_bs) := hD
        rw [← hQ]
        exact W.vret hx hb hr (fun t ht hW => ⟨⟨(w_pc, w_ht, true), rfl, hf.symm, by rw [ht]; exact hP, va_K.moved hW.alike hK, hD⟩, hS.F ht⟩) hS.2.2 dX4_halts_54
      · have hf := hf.trans (kf_eq c7)
        refine lv_aload_n hx hb dX4_halts_41 rfl (lv_at hl 0 rfl) ?_
        refine lv_iload_n hx hb dX4_halts_42 rfl (lv_at hl 1 rfl) ?_
        refine va_put (D := D) (ci := 4) (v := .int a1) (ty := .int) (C := RX4) (T := TX4) (N := 18) hx hb hws inlX4 tyX4 tyX4_ok nmX4 hown hK hP hD hS 0 rfl rfl 7 (by decide) (hws _ mw_370) (fun _ h9 => h9) rfl (tyX4_ok 7 (by decide)) rfl rfl (Nat.le_of_ble_eq_true rfl) dX4_halts_43 (fun H locs hP hD hS => ?_)
        have hP : va_P D vwCl (kX4 cB cI mo mb ma w_zf w_nf w_hf w_cf w_sp a1 w_on w_wt w_ht w_bg w_cn w_al w_cl w_ie w_ww w_th w_mm w_bs) H := hP
        have hD : va_D A (kX4 cB cI mo mb ma w_zf w_nf w_hf w_cf w_sp a1 w_on w_wt w_ht w_bg w_cn w_al w_cl w_ie w_ww w_th w_mm w_bs) := hD
        refine lv_goto (tgt := 54) hx hb dX4_halts_46 (by decide) ?_
        rw [← hQ]
        exact W.vret hx hb hr (fun t ht hW => ⟨⟨(a1, w_ht, w_bg), rfl, hf.symm, by rw [ht]; exact hP, va_K.moved hW.alike hK, hD⟩, hS.F ht⟩) hS.2.2 dX4_halts_54
    · have hf := hf.trans (kf_eq c6)
      refine lv_aload_n hx hb dX4_halts_26 rfl (lv_at hl 0 rfl) ?_
      refine lv_iconst (v := 1) hx hb dX4_halts_27 (by decide) ?_
      refine va_put (D := D) (ci := 4) (v := .int (bI true)) (ty := .boolean) (C := RX4) (T := TX4) (N := 18) hx hb hws inlX4 tyX4 tyX4_ok nmX4 hown hK hP hD hS 0 rfl rfl 10 (by decide) (hws _ mw_369) (fun _ h9 => h9) rfl (tyX4_ok 10 (by decide)) (bI_nar _) (bI_fit _) (Nat.le_of_ble_eq_true rfl) dX4_halts_28 (fun H locs hP hD hS => ?_)
      have hP : va_P D vwCl (kX4 cB cI mo mb ma w_zf w_nf w_hf w_cf w_sp w_pc w_on w_wt true w_bg w_cn w_al w_cl w_ie w_ww w_th w_mm w_bs) H := hP
      have hD : va_D A (kX4 cB cI mo mb ma w_zf w_nf w_hf w_cf w_sp w_pc w_on w_wt true w_bg w_cn w_al w_cl w_ie w_ww w_th w_mm w_bs) := hD
      refine lv_goto (tgt := 54) hx hb dX4_halts_31 (by decide) ?_
      rw [← hQ]
      exact W.vret hx hb hr (fun t ht hW => ⟨⟨(w_pc, true, w_bg), rfl, hf.symm, by rw [ht]; exact hP, va_K.moved hW.alike hK, hD⟩, hS.F ht⟩) hS.2.2 dX4_halts_54
def fX4_returnsIf (w_zf : Bool) (w_cf : Bool) (w_sp : Int32) (w_pc : Int32) (w_cl : Int32) (w_mm : Nat → Int32) (a1 : Int32) : Int32 × Int32 × Int32 := (kU1 ((w_cl + (1 : Int32))) (fun (x1 : Int32) => (kU1 (fX4_holds w_zf w_cf a1) (fun (z4 : Bool) => (kIf (kEq (bI z4) (0 : Int32)) (w_sp, w_pc, x1) (kU3 (fX4_pop w_sp x1 w_mm) (fun (r9 : Int32) (b6 : Int32) (b7 : Int32) => (kU1 ((b7 + (1 : Int32))) (fun (x10 : Int32) => (b6, r9, x10))))))))))
def rmX4_returnsIf : Room := { frames := 3, cells := 0, slots := 0, locals := 64 }
def wwX4_returnsIf : List Cond := Cond.code yX4_returnsIf cX4_returnsIf 2 none :: wsL_law
theorem hdX4_returnsIf : yX4_returnsIf.cls = RX4 ∧ yX4_returnsIf.cls ≠ "java/lang/invoke/MethodHandle" ∧ yX4_returnsIf.cls ≠ "java/lang/invoke/VarHandle" ∧ (parseMethodDescriptor yX4_returnsIf.desc).map (fun d => d.parameters.length) = some 1 := by decide +kernel
set_option maxHeartbeats 4000000 in
set_option maxRecDepth 100000 in
theorem c_X4_returnsIf (l : Launch) (D : va_G) (cB : ClassId) (cI : ClassId) (mo mb ma sz : Nat) (w_zf : Bool) (w_nf : Bool) (w_hf : Bool) (w_cf : Bool) (w_sp : Int32) (w_pc : Int32) (w_on : Bool) (w_wt : Bool) (w_ht : Bool) (w_bg : Bool) (w_cn : Int32) (w_al : Int32) (w_cl : Int32) (w_ie : Bool) (w_ww : Bool) (w_th : Int32) (w_mm : Nat → Int32) (w_bs : Nat → Int32) (a1 : Int32)  : Met l yX4_returnsIf wwX4_returnsIf rmX4_returnsIf (va_Pc [.ref mo, .int a1] (kp D (kX4 cB cI mo mb ma w_zf w_nf w_hf w_cf w_sp w_pc w_on w_wt w_ht w_bg w_cn w_al w_cl w_ie w_ww w_th w_mm w_bs) [(cB, .byte), (cI, .int)] sz)) (va_Qv (fun (u9 : Int32 × Int32 × Int32) => u9 = fX4_returnsIf w_zf w_cf w_sp w_pc w_cl w_mm a1) (fun u9 t => kq D (kX4 cB cI mo mb ma w_zf w_nf w_hf w_cf (u9.1) (u9.2.1) w_on w_wt w_ht w_bg w_cn w_al (u9.2.2) w_ie w_ww w_th w_mm w_bs) [(cB, .byte), (cI, .int)] (va_A (kX4 cB cI mo mb ma w_zf w_nf w_hf w_cf w_sp w_pc w_on w_wt w_ht w_bg w_cn w_al w_cl w_ie w_ww w_th w_mm w_bs) sz) t) (va_A (kX4 cB cI mo mb ma w_zf w_nf w_hf w_cf w_sp w_pc w_on w_wt w_ht w_bg w_cn w_al w_cl w_ie w_ww w_th w_mm w_bs) sz)) 0 0 (va_A (kX4 cB cI mo mb ma w_zf w_nf w_hf w_cf w_sp w_pc w_on w_wt w_ht w_bg w_cn w_al w_cl w_ie w_ww w_th w_mm w_bs) sz) := by
  refine Met.ofW (cc := cX4_returnsIf) (maxL := 2) (ret := none) (by decide) rfl ?_
  intro p e s m args below meth c s₁ B hml hv
  obtain ⟨rfl, hsz, hP, hK, hD0, hT⟩ := hv
  have hx := B.exec
  have hb := B.bytes
  have hr := B.returns
  have hts := atoms_spec (ws := wwX4_returnsIf) B.pre
  have hws : ∀ w ∈ wsL_law, w.before _ s = true := fun w h => hts w (List.mem_cons_of_mem _ h)
  have hown : s.vm.findClass RX4 = some m.cls := findClass_of_methodNamed B.named
  have hlocks := B.notSynchronized
  subst hsz
  have hD := hD0.self (sz := s.heap.size)
  generalize hAe : va_A (kX4 cB cI mo mb ma w_zf w_nf w_hf w_cf w_sp w_pc w_on w_wt w_ht w_bg w_cn w_al w_cl w_ie w_ww w_th w_mm w_bs) s.heap.size = A at hD hT ⊢
  have hA : ∀ q : Nat, s.heap.size ≤ q → A q := fun q h => by rw [← hAe]; exact Or.inr h
  have hS : va_S A s.heap s.heap [] := va_S.rf
  have hl := lv_entry ([.ref mo, .int a1]) (n := 2) (Nat.le_of_ble_eq_true rfl)
  rw [lg_entry_eq]
  generalize (lg_sl ([.ref mo, .int a1]) ++ List.replicate (2 - (lg_sl ([.ref mo, .int a1])).length) Slot.unset).toArray = ls at hl ⊢
  have hl : lv_has ls 2 [(0, .ref mo), (1, .int a1)] := hl
  generalize hQ : MQ _ _ _ _ _ _ _ = Q
  obtain ⟨H, hHe⟩ : ∃ H : Heap, H = s.heap := ⟨_, rfl⟩
  obtain ⟨locs, hle⟩ : ∃ L : List Loc, L = [] := ⟨_, rfl⟩
  have hP : va_P D vwCl (kX4 cB cI mo mb ma w_zf w_nf w_hf w_cf w_sp w_pc w_on w_wt w_ht w_bg w_cn w_al w_cl w_ie w_ww w_th w_mm w_bs) H := by rw [hHe]; exact hP
  have hS : va_S A s.heap H locs := by rw [hHe, hle]; exact hS
  refine kw_start hHe.symm hle.symm ?_
  have hf : fX4_returnsIf w_zf w_cf w_sp w_pc w_cl w_mm a1 = fX4_returnsIf w_zf w_cf w_sp w_pc w_cl w_mm a1 := rfl
  refine lv_aload_n hx hb dX4_returnsIf_0 rfl (lv_at hl 0 rfl) ?_
  refine lv_dup hx hb dX4_returnsIf_1 rfl ?_
  refine va_get (D := D) (ci := 4) (v := .int w_cl) (C := RX4) (T := TX4) (N := 18) hx hb hws inlX4 hown hK hP 0 rfl rfl 14 (by decide) (hws _ mw_367) (fun _ h9 => h9) rfl dX4_returnsIf_2 ?_
  refine lv_iconst (v := 1) hx hb dX4_returnsIf_5 (by decide) ?_
  refine lv_iadd hx hb dX4_returnsIf_6 ?_
  refine lv_topi (fun x1 ex1 => ?_)
  have hf := hf.trans (kE1 ex1)
  refine va_put (D := D) (ci := 4) (v := .int x1) (ty := .int) (C := RX4) (T := TX4) (N := 18) hx hb hws inlX4 tyX4 tyX4_ok nmX4 hown hK hP hD hS 0 rfl rfl 14 (by decide) (hws _ mw_367) (fun _ h9 => h9) rfl (tyX4_ok 14 (by decide)) rfl rfl (Nat.le_of_ble_eq_true rfl) dX4_returnsIf_7 (fun H locs hP hD hS => ?_)
  have hP : va_P D vwCl (kX4 cB cI mo mb ma w_zf w_nf w_hf w_cf w_sp w_pc w_on w_wt w_ht w_bg w_cn w_al x1 w_ie w_ww w_th w_mm w_bs) H := hP
  have hD : va_D A (kX4 cB cI mo mb ma w_zf w_nf w_hf w_cf w_sp w_pc w_on w_wt w_ht w_bg w_cn w_al x1 w_ie w_ww w_th w_mm w_bs) := hD
  refine lv_aload_n hx hb dX4_returnsIf_10 rfl (lv_at hl 0 rfl) ?_
  refine lv_iload_n hx hb dX4_returnsIf_11 rfl (lv_at hl 1 rfl) ?_
  refine kc_Vi (wr := []) (As := [.int a1]) (rest := []) (fun _ => (kX4 cB cI mo mb ma w_zf w_nf w_hf w_cf w_sp w_pc w_on w_wt w_ht w_bg w_cn w_al x1 w_ie w_ww w_th w_mm w_bs)) ⟨hx, hb, hml, hown, hws⟩ hK hP hD hS hA hT (c_X4_holds l D cB cI mo mb ma H.size w_zf w_nf w_hf w_cf w_sp w_pc w_on w_wt w_ht w_bg w_cn w_al x1 w_ie w_ww w_th w_mm w_bs a1) (cwV 1 hws (gw_V mw_426 mw_427 mw_428 mw_5 mw_429) rfl rfl rfl hdX4_holds ⟨Nat.le_of_ble_eq_true rfl, Nat.le_of_ble_eq_true rfl⟩) [0, 1, 2] [] [0, 1] [0, 1, 2] rfl rfl rfl rfl (by decide) rfl (fun _ => rfl) rfl 0 rfl rfl rfl rfl hl.1 rfl (Nat.le_of_ble_eq_true rfl) dX4_returnsIf_12 ⟨Nat.zero_le _, Nat.zero_le _⟩ (fun r3 _ H locs hw2 hP hD hS => ?_)
  obtain ⟨z4, rfl, hw2⟩ := hw2
  have hP : va_P D vwCl (kX4 cB cI mo mb ma w_zf w_nf w_hf w_cf w_sp w_pc w_on w_wt w_ht w_bg w_cn w_al x1 w_ie w_ww w_th w_mm w_bs) H := hP
  have hD : va_D A (kX4 cB cI mo mb ma w_zf w_nf w_hf w_cf w_sp w_pc w_on w_wt w_ht w_bg w_cn w_al x1 w_ie w_ww w_th w_mm w_bs) := hD
  have hf := hf.trans (kE1 hw2)
  refine lv_if_ne (tgt := 19) hx hb dX4_returnsIf_15 (by decide) (fun c5 => ?_) (fun c5 => ?_)
  · have hf := hf.trans (kf_eq c5)
    refine lv_aload_n hx hb dX4_returnsIf_19 rfl (lv_at hl 0 rfl) ?_
    refine lv_aload_n hx hb dX4_returnsIf_20 rfl (lv_at hl 0 rfl) ?_
    refine kc_Vi (wr := []) (As := []) (rest := [.ref mo]) (fun u9 => (kX4 cB cI mo mb ma w_zf w_nf w_hf w_cf (u9.1) w_pc w_on w_wt w_ht w_bg w_cn w_al (u9.2) w_ie w_ww w_th w_mm w_bs)) ⟨hx, hb, hml, hown, hws⟩ hK hP hD hS hA hT (c_X4_pop l D cB cI mo mb ma H.size w_zf w_nf w_hf w_cf w_sp w_pc w_on w_wt w_ht w_bg w_cn w_al x1 w_ie w_ww w_th w_mm w_bs ) (cwV 0 hws (gw_V mw_518 mw_519 mw_520 mw_5 mw_521) rfl rfl rfl hdX4_pop ⟨Nat.le_of_ble_eq_true rfl, Nat.le_of_ble_eq_true rfl⟩) [0, 1, 2] [] [0, 1] [0, 1, 2] rfl rfl rfl rfl (by decide) rfl (fun _ => rfl) rfl 0 rfl rfl rfl rfl hl.1 rfl (Nat.le_of_ble_eq_true rfl) dX4_returnsIf_21 ⟨Nat.zero_le _, Nat.zero_le _⟩ (fun r9 u9 H locs hw8 hP hD hS => ?_)
    obtain ⟨b6, b7⟩ := u9
    have hP : va_P D vwCl (kX4 cB cI mo mb ma w_zf w_nf w_hf w_cf b6 w_pc w_on w_wt w_ht w_bg w_cn w_al b7 w_ie w_ww w_th w_mm w_bs) H := hP
    have hD : va_D A (kX4 cB cI mo mb ma w_zf w_nf w_hf w_cf b6 w_pc w_on w_wt w_ht w_bg w_cn w_al b7 w_ie w_ww w_th w_mm w_bs) := hD
    have hf := hf.trans (kE3 hw8)
    refine va_put (D := D) (ci := 4) (v := .int r9) (ty := .int) (C := RX4) (T := TX4) (N := 18) hx hb hws inlX4 tyX4 tyX4_ok nmX4 hown hK hP hD hS 0 rfl rfl 7 (by decide) (hws _ mw_370) (fun _ h9 => h9) rfl (tyX4_ok 7 (by decide)) rfl rfl (Nat.le_of_ble_eq_true rfl) dX4_returnsIf_24 (fun H locs hP hD hS => ?_)
    have hP : va_P D vwCl (kX4 cB cI mo mb ma w_zf w_nf w_hf w_cf b6 r9 w_on w_wt w_ht w_bg w_cn w_al b7 w_ie w_ww w_th w_mm w_bs) H := hP
    have hD : va_D A (kX4 cB cI mo mb ma w_zf w_nf w_hf w_cf b6 r9 w_on w_wt w_ht w_bg w_cn w_al b7 w_ie w_ww w_th w_mm w_bs) := hD
    refine lv_aload_n hx hb dX4_returnsIf_27 rfl (lv_at hl 0 rfl) ?_
    refine lv_dup hx hb dX4_returnsIf_28 rfl ?_
    refine va_get (D := D) (ci := 4) (v := .int b7) (C := RX4) (T := TX4) (N := 18) hx hb hws inlX4 hown hK hP 0 rfl rfl 14 (by decide) (hws _ mw_367) (fun _ h9 => h9) rfl dX4_returnsIf_29 ?_
    refine lv_iconst (v := 1) hx hb dX4_returnsIf_32 (by decide) ?_
    refine lv_iadd hx hb dX4_returnsIf_33 ?_
    refine lv_topi (fun x10 ex10 => ?_)
    have hf := hf.trans (kE1 ex10)
    refine va_put (D := D) (ci := 4) (v := .int x10) (ty := .int) (C := RX4) (T := TX4) (N := 18) hx hb hws inlX4 tyX4 tyX4_ok nmX4 hown hK hP hD hS 0 rfl rfl 14 (by decide) (hws _ mw_367) (fun _ h9 => h9) rfl (tyX4_ok 14 (by decide)) rfl rfl (Nat.le_of_ble_eq_true rfl) dX4_returnsIf_34 (fun H locs hP hD hS => ?_)
    have hP : va_P D vwCl (kX4 cB cI mo mb ma w_zf w_nf w_hf w_cf b6 r9 w_on w_wt w_ht w_bg w_cn w_al x10 w_ie w_ww w_th w_mm w_bs) H := hP
    have hD : va_D A (kX4 cB cI mo mb ma w_zf w_nf w_hf w_cf b6 r9 w_on w_wt w_ht w_bg w_cn w_al x10 w_ie w_ww w_th w_mm w_bs) := hD
    rw [← hQ]
    exact W.vret hx hb hr (fun t ht hW => ⟨⟨(b6, r9, x10), rfl, hf.symm, by rw [ht]; exact hP, va_K.moved hW.alike hK, hD⟩, hS.F ht⟩) hS.2.2 dX4_returnsIf_37
  · have hf := hf.trans (kt_eq c5)
    rw [← hQ]
    exact W.vret hx hb hr (fun t ht hW => ⟨⟨(w_sp, w_pc, x1), rfl, hf.symm, by rw [ht]; exact hP, va_K.moved hW.alike hK, hD⟩, hS.F ht⟩) hS.2.2 dX4_returnsIf_18
def fX4_high (w_zf : Bool) (w_nf : Bool) (w_hf : Bool) (w_cf : Bool) (w_sp : Int32) (w_pc : Int32) (w_cn : Int32) (w_cl : Int32) (w_mm : Nat → Int32) (w_bs : Nat → Int32) (a1 : Int32) : Bool × Bool × Bool × Bool × Int32 × Int32 × Int32 × Int32 × (Nat → Int32) × (Nat → Int32) := (kU3 (fX4_fetch w_pc w_cl w_mm) (fun (r4 : Int32) (b1 : Int32) (b2 : Int32) => (kIf (kEq a1 (4 : Int32)) (kU3 (fX4_writes w_cn b2 w_mm ((65280 : Int32) + r4) (w_bs (7 : Int32).toNatClampNeg)) (fun (b28 : Int32) (b29 : Int32) (b30 : Nat → Int32) => (w_zf, w_nf, w_hf, w_cf, w_sp, b1, b28, b29, b30, w_bs))) (kIf (kEq a1 (6 : Int32)) (kU2 (fX4_reads b2 w_mm ((65280 : Int32) + r4)) (fun (r26 : Int32) (b24 : Int32) => (kU1 (upd w_bs (7 : Int32).toNatClampNeg r26) (fun (f27 : Nat → Int32) => (w_zf, w_nf, w_hf, w_cf, w_sp, b1, w_cn, b24, w_mm, f27))))) (kIf (kEq a1 (5 : Int32)) (kU1 ((b2 + (2 : Int32))) (fun (x17 : Int32) => (kU5 (fX4_moved w_zf w_nf w_hf w_cf w_sp r4) (fun (r23 : Int32) (b18 : Bool) (b19 : Bool) (b20 : Bool) (b21 : Bool) => (b18, b19, b20, b21, r23, b1, w_cn, x17, w_mm, w_bs))))) (kU1 ((b2 + (1 : Int32))) (fun (x8 : Int32) => (kU5 (fX4_moved w_zf w_nf w_hf w_cf w_sp r4) (fun (r14 : Int32) (b9 : Bool) (b10 : Bool) (b11 : Bool) (b12 : Bool) => (kU1 (fX4_setPair w_bs (2 : Int32) r14) (fun (b15 : Nat → Int32) => (b9, b10, b11, b12, w_sp, b1, w_cn, x8, w_mm, b15))))))))))))
def rmX4_high : Room := { frames := 3, cells := 0, slots := 0, locals := 63 }
def wwX4_high : List Cond := Cond.code yX4_high cX4_high 3 none :: wsL_law
theorem hdX4_high : yX4_high.cls = RX4 ∧ yX4_high.cls ≠ "java/lang/invoke/MethodHandle" ∧ yX4_high.cls ≠ "java/lang/invoke/VarHandle" ∧ (parseMethodDescriptor yX4_high.desc).map (fun d => d.parameters.length) = some 1 := by decide +kernel
set_option maxHeartbeats 4000000 in
set_option maxRecDepth 100000 in
theorem c_X4_high (l : Launch) (D : va_G) (cB : ClassId) (cI : ClassId) (mo mb ma sz : Nat) (w_zf : Bool) (w_nf : Bool) (w_hf : Bool) (w_cf : Bool) (w_sp : Int32) (w_pc : Int32) (w_on : Bool) (w_wt : Bool) (w_ht : Bool) (w_bg : Bool) (w_cn : Int32) (w_al : Int32) (w_cl : Int32) (w_ie : Bool) (w_ww : Bool) (w_th : Int32) (w_mm : Nat → Int32) (w_bs : Nat → Int32) (a1 : Int32)  : Met l yX4_high wwX4_high rmX4_high (va_Pc [.ref mo, .int a1] (kp D (kX4 cB cI mo mb ma w_zf w_nf w_hf w_cf w_sp w_pc w_on w_wt w_ht w_bg w_cn w_al w_cl w_ie w_ww w_th w_mm w_bs) [(cB, .byte), (cI, .int)] sz)) (va_Qv (fun (u9 : Bool × Bool × Bool × Bool × Int32 × Int32 × Int32 × Int32 × (Nat → Int32) × (Nat → Int32)) => u9 = fX4_high w_zf w_nf w_hf w_cf w_sp w_pc w_cn w_cl w_mm w_bs a1) (fun u9 t => kq D (kX4 cB cI mo mb ma (u9.1) (u9.2.1) (u9.2.2.1) (u9.2.2.2.1) (u9.2.2.2.2.1) (u9.2.2.2.2.2.1) w_on w_wt w_ht w_bg (u9.2.2.2.2.2.2.1) w_al (u9.2.2.2.2.2.2.2.1) w_ie w_ww w_th (u9.2.2.2.2.2.2.2.2.1) (u9.2.2.2.2.2.2.2.2.2)) [(cB, .byte), (cI, .int)] (va_A (kX4 cB cI mo mb ma w_zf w_nf w_hf w_cf w_sp w_pc w_on w_wt w_ht w_bg w_cn w_al w_cl w_ie w_ww w_th w_mm w_bs) sz) t) (va_A (kX4 cB cI mo mb ma w_zf w_nf w_hf w_cf w_sp w_pc w_on w_wt w_ht w_bg w_cn w_al w_cl w_ie w_ww w_th w_mm w_bs) sz)) 0 0 (va_A (kX4 cB cI mo mb ma w_zf w_nf w_hf w_cf w_sp w_pc w_on w_wt w_ht w_bg w_cn w_al w_cl w_ie w_ww w_th w_mm w_bs) sz) := by
  refine Met.ofW (cc := cX4_high) (maxL := 3) (ret := none) (by decide) rfl ?_
  intro p e s m args below meth c s₁ B hml hv
  obtain ⟨rfl, hsz, hP, hK, hD0, hT⟩ := hv
  have hx := B.exec
  have hb := B.bytes
  have hr := B.returns
  have hts := atoms_spec (ws := wwX4_high) B.pre
  have hws : ∀ w ∈ wsL_law, w.before _ s = true := fun w h => hts w (List.mem_cons_of_mem _ h)
  have hown : s.vm.findClass RX4 = some m.cls := findClass_of_methodNamed B.named
  have hlocks := B.notSynchronized
  subst hsz
  have hD := hD0.self (sz := s.heap.size)
  generalize hAe : va_A (kX4 cB cI mo mb ma w_zf w_nf w_hf w_cf w_sp w_pc w_on w_wt w_ht w_bg w_cn w_al w_cl w_ie w_ww w_th w_mm w_bs) s.heap.size = A at hD hT ⊢
  have hA : ∀ q : Nat, s.heap.size ≤ q → A q := fun q h => by rw [← hAe]; exact Or.inr h
  have hS : va_S A s.heap s.heap [] := va_S.rf
  have hl := lv_entry ([.ref mo, .int a1]) (n := 3) (Nat.le_of_ble_eq_true rfl)
  rw [lg_entry_eq]
  generalize (lg_sl ([.ref mo, .int a1]) ++ List.replicate (3 - (lg_sl ([.ref mo, .int a1])).length) Slot.unset).toArray = ls at hl ⊢
  have hl : lv_has ls 3 [(0, .ref mo), (1, .int a1)] := hl
  generalize hQ : MQ _ _ _ _ _ _ _ = Q
  obtain ⟨H, hHe⟩ : ∃ H : Heap, H = s.heap := ⟨_, rfl⟩
  obtain ⟨locs, hle⟩ : ∃ L : List Loc, L = [] := ⟨_, rfl⟩
  have hP : va_P D vwCl (kX4 cB cI mo mb ma w_zf w_nf w_hf w_cf w_sp w_pc w_on w_wt w_ht w_bg w_cn w_al w_cl w_ie w_ww w_th w_mm w_bs) H := by rw [hHe]; exact hP
  have hS : va_S A s.heap H locs := by rw [hHe, hle]; exact hS
  refine kw_start hHe.symm hle.symm ?_
  have hf : fX4_high w_zf w_nf w_hf w_cf w_sp w_pc w_cn w_cl w_mm w_bs a1 = fX4_high w_zf w_nf w_hf w_cf w_sp w_pc w_cn w_cl w_mm w_bs a1 := rfl
  refine lv_aload_n hx hb dX4_high_0 rfl (lv_at hl 0 rfl) ?_
  refine kc_Vi (wr := []) (As := []) (rest := []) (fun u9 => (kX4 cB cI mo mb ma w_zf w_nf w_hf w_cf w_sp (u9.1) w_on w_wt w_ht w_bg w_cn w_al (u9.2) w_ie w_ww w_th w_mm w_bs)) ⟨hx, hb, hml, hown, hws⟩ hK hP hD hS hA hT (c_X4_fetch l D cB cI mo mb ma H.size w_zf w_nf w_hf w_cf w_sp w_pc w_on w_wt w_ht w_bg w_cn w_al w_cl w_ie w_ww w_th w_mm w_bs ) (cwV 0 hws (gw_V mw_422 mw_423 mw_424 mw_5 mw_425) rfl rfl rfl hdX4_fetch ⟨Nat.le_of_ble_eq_true rfl, Nat.le_of_ble_eq_true rfl⟩) [0, 1, 2] [] [0, 1] [0, 1, 2] rfl rfl rfl rfl (by decide) rfl (fun _ => rfl) rfl 0 rfl rfl rfl rfl hl.1 rfl (Nat.le_of_ble_eq_true rfl) dX4_high_1 ⟨Nat.zero_le _, Nat.zero_le _⟩ (fun r4 u9 H locs hw3 hP hD hS => ?_)
  obtain ⟨b1, b2⟩ := u9
  have hP : va_P D vwCl (kX4 cB cI mo mb ma w_zf w_nf w_hf w_cf w_sp b1 w_on w_wt w_ht w_bg w_cn w_al b2 w_ie w_ww w_th w_mm w_bs) H := hP
  have hD : va_D A (kX4 cB cI mo mb ma w_zf w_nf w_hf w_cf w_sp b1 w_on w_wt w_ht w_bg w_cn w_al b2 w_ie w_ww w_th w_mm w_bs) := hD
  have hf := hf.trans (kE3 hw3)
  refine lv_istore_n (lv' := [(2, .int r4), (0, .ref mo), (1, .int a1)]) hx hb dX4_high_4 rfl hl (by decide) rfl (fun ls hl => ?_)
  refine lv_iload_n hx hb dX4_high_5 rfl (lv_at hl 2 rfl) ?_
  refine lv_iconst (v := 4) hx hb dX4_high_6 (by decide) ?_
  refine lv_icmp_ne (tgt := 28) hx hb dX4_high_7 (by decide) (fun c5 => ?_) (fun c5 => ?_)
  · have hf := hf.trans (kf_eq c5)
    refine lv_iload_n hx hb dX4_high_28 rfl (lv_at hl 2 rfl) ?_
    refine lv_bipush (v := 6) hx hb dX4_high_29 (by decide) ?_
    refine lv_icmp_ne (tgt := 52) hx hb dX4_high_31 (by decide) (fun c6 => ?_) (fun c6 => ?_)
    · have hf := hf.trans (kf_eq c6)
      refine lv_iload_n hx hb dX4_high_52 rfl (lv_at hl 2 rfl) ?_
      refine lv_iconst (v := 5) hx hb dX4_high_53 (by decide) ?_
      refine lv_icmp_ne (tgt := 79) hx hb dX4_high_54 (by decide) (fun c7 => ?_) (fun c7 => ?_)
      · have hf := hf.trans (kf_eq c7)
        refine lv_aload_n hx hb dX4_high_79 rfl (lv_at hl 1 rfl) ?_
        refine lv_dup hx hb dX4_high_80 rfl ?_
        refine va_get (D := D) (ci := 4) (v := .int b2) (C := RX4) (T := TX4) (N := 18) hx hb hws inlX4 hown hK hP 0 rfl rfl 14 (by decide) (hws _ mw_367) (fun _ h9 => h9) rfl dX4_high_81 ?_
        refine lv_iconst (v := 1) hx hb dX4_high_84 (by decide) ?_
        refine lv_iadd hx hb dX4_high_85 ?_
        refine lv_topi (fun x8 ex8 => ?_)
        have hf := hf.trans (kE1 ex8)
        refine va_put (D := D) (ci := 4) (v := .int x8) (ty := .int) (C := RX4) (T := TX4) (N := 18) hx hb hws inlX4 tyX4 tyX4_ok nmX4 hown hK hP hD hS 0 rfl rfl 14 (by decide) (hws _ mw_367) (fun _ h9 => h9) rfl (tyX4_ok 14 (by decide)) rfl rfl (Nat.le_of_ble_eq_true rfl) dX4_high_86 (fun H locs hP hD hS => ?_)
        have hP : va_P D vwCl (kX4 cB cI mo mb ma w_zf w_nf w_hf w_cf w_sp b1 w_on w_wt w_ht w_bg w_cn w_al x8 w_ie w_ww w_th w_mm w_bs) H := hP
        have hD : va_D A (kX4 cB cI mo mb ma w_zf w_nf w_hf w_cf w_sp b1 w_on w_wt w_ht w_bg w_cn w_al x8 w_ie w_ww w_th w_mm w_bs) := hD
        refine lv_aload_n hx hb dX4_high_89 rfl (lv_at hl 1 rfl) ?_
        refine lv_iconst (v := 2) hx hb dX4_high_90 (by decide) ?_
        refine lv_aload_n hx hb dX4_high_91 rfl (lv_at hl 1 rfl) ?_
        refine lv_iload_n hx hb dX4_high_92 rfl (lv_at hl 0 rfl) ?_
        refine kc_Vi (wr := []) (As := [.int r4]) (rest := [.int (2 : Int32), .ref mo]) (fun u9 => (kX4 cB cI mo mb ma (u9.1) (u9.2.1) (u9.2.2.1) (u9.2.2.2) w_sp b1 w_on w_wt w_ht w_bg w_cn w_al x8 w_ie w_ww w_th w_mm w_bs)) ⟨hx, hb, hml, hown, hws⟩ hK hP hD hS hA hT (c_X4_moved l D cB cI mo mb ma H.size w_zf w_nf w_hf w_cf w_sp b1 w_on w_wt w_ht w_bg w_cn w_al x8 w_ie w_ww w_th w_mm w_bs r4) (cwV 1 hws (gw_V mw_527 mw_528 mw_529 mw_5 mw_530) rfl rfl rfl hdX4_moved ⟨Nat.le_of_ble_eq_true rfl, Nat.le_of_ble_eq_true rfl⟩) [0, 1, 2] [] [0, 1] [0, 1, 2] rfl rfl rfl rfl (by decide) rfl (fun _ => rfl) rfl 0 rfl rfl rfl rfl hl.1 rfl (Nat.le_of_ble_eq_true rfl) dX4_high_93 ⟨Nat.zero_le _, Nat.zero_le _⟩ (fun r14 u9 H locs hw13 hP hD hS => ?_)
        obtain ⟨b9, b10, b11, b12⟩ := u9
        have hP : va_P D vwCl (kX4 cB cI mo mb ma b9 b10 b11 b12 w_sp b1 w_on w_wt w_ht w_bg w_cn w_al x8 w_ie w_ww w_th w_mm w_bs) H := hP
        have hD : va_D A (kX4 cB cI mo mb ma b9 b10 b11 b12 w_sp b1 w_on w_wt w_ht w_bg w_cn w_al x8 w_ie w_ww w_th w_mm w_bs) := hD
        have hf := hf.trans (kE5 hw13)
        refine kc_Vv (wr := []) (As := [.int (2 : Int32), .int r14]) (rest := []) (fun u9 => (kX4 cB cI mo mb ma b9 b10 b11 b12 w_sp b1 w_on w_wt w_ht w_bg w_cn w_al x8 w_ie w_ww w_th w_mm u9)) ⟨hx, hb, hml, hown, hws⟩ hK hP hD hS hA hT (c_X4_setPair l D cB cI mo mb ma H.size b9 b10 b11 b12 w_sp b1 w_on w_wt w_ht w_bg w_cn w_al x8 w_ie w_ww w_th w_mm w_bs (2 : Int32) r14 (by unfold vp_in; decide)) (cwV 2 hws (gw_V mw_454 mw_455 mw_456 mw_5 mw_457) rfl rfl rfl hdX4_setPair ⟨Nat.le_of_ble_eq_true rfl, Nat.le_of_ble_eq_true rfl⟩) [0, 1, 2] [] [0, 1] [0, 1, 2] rfl rfl rfl rfl (by decide) rfl (fun _ => rfl) rfl 0 rfl rfl rfl rfl hl.1 rfl (Nat.le_of_ble_eq_true rfl) dX4_high_96 ⟨Nat.zero_le _, Nat.zero_le _⟩ (fun b15 H locs hw16 hP hD hS => ?_)
        have hP : va_P D vwCl (kX4 cB cI mo mb ma b9 b10 b11 b12 w_sp b1 w_on w_wt w_ht w_bg w_cn w_al x8 w_ie w_ww w_th w_mm b15) H := hP
        have hD : va_D A (kX4 cB cI mo mb ma b9 b10 b11 b12 w_sp b1 w_on w_wt w_ht w_bg w_cn w_al x8 w_ie w_ww w_th w_mm b15) := hD
        have hf := hf.trans (kE1 hw16)
        rw [← hQ]
        exact W.vret hx hb hr (fun t ht hW => ⟨⟨(b9, b10, b11, b12, w_sp, b1, w_cn, x8, w_mm, b15), rfl, hf.symm, by rw [ht]; exact hP, va_K.moved hW.alike hK, hD⟩, hS.F ht⟩) hS.2.2 dX4_high_99
      · have hf := hf.trans (kt_eq c7)
        refine lv_aload_n hx hb dX4_high_57 rfl (lv_at hl 1 rfl) ?_
        refine lv_dup hx hb dX4_high_58 rfl ?_
        refine va_get (D := D) (ci := 4) (v := .int b2) (C := RX4) (T := TX4) (N := 18) hx hb hws inlX4 hown hK hP 0 rfl rfl 14 (by decide) (hws _ mw_367) (fun _ h9 => h9) rfl dX4_high_59 ?_
        refine lv_iconst (v := 2) hx hb dX4_high_62 (by decide) ?_
        refine lv_iadd hx hb dX4_high_63 ?_
        refine lv_topi (fun x17 ex17 => ?_)
        have hf := hf.trans (kE1 ex17)
        refine va_put (D := D) (ci := 4) (v := .int x17) (ty := .int) (C := RX4) (T := TX4) (N := 18) hx hb hws inlX4 tyX4 tyX4_ok nmX4 hown hK hP hD hS 0 rfl rfl 14 (by decide) (hws _ mw_367) (fun _ h9 => h9) rfl (tyX4_ok 14 (by decide)) rfl rfl (Nat.le_of_ble_eq_true rfl) dX4_high_64 (fun H locs hP hD hS => ?_)
        have hP : va_P D vwCl (kX4 cB cI mo mb ma w_zf w_nf w_hf w_cf w_sp b1 w_on w_wt w_ht w_bg w_cn w_al x17 w_ie w_ww w_th w_mm w_bs) H := hP
        have hD : va_D A (kX4 cB cI mo mb ma w_zf w_nf w_hf w_cf w_sp b1 w_on w_wt w_ht w_bg w_cn w_al x17 w_ie w_ww w_th w_mm w_bs) := hD
        refine lv_aload_n hx hb dX4_high_67 rfl (lv_at hl 1 rfl) ?_
        refine lv_aload_n hx hb dX4_high_68 rfl (lv_at hl 1 rfl) ?_
        refine lv_iload_n hx hb dX4_high_69 rfl (lv_at hl 0 rfl) ?_
        refine kc_Vi (wr := []) (As := [.int r4]) (rest := [.ref mo]) (fun u9 => (kX4 cB cI mo mb ma (u9.1) (u9.2.1) (u9.2.2.1) (u9.2.2.2) w_sp b1 w_on w_wt w_ht w_bg w_cn w_al x17 w_ie w_ww w_th w_mm w_bs)) ⟨hx, hb, hml, hown, hws⟩ hK hP hD hS hA hT (c_X4_moved l D cB cI mo mb ma H.size w_zf w_nf w_hf w_cf w_sp b1 w_on w_wt w_ht w_bg w_cn w_al x17 w_ie w_ww w_th w_mm w_bs r4) (cwV 1 hws (gw_V mw_527 mw_528 mw_529 mw_5 mw_530) rfl rfl rfl hdX4_moved ⟨Nat.le_of_ble_eq_true rfl, Nat.le_of_ble_eq_true rfl⟩) [0, 1, 2] [] [0, 1] [0, 1, 2] rfl rfl rfl rfl (by decide) rfl (fun _ => rfl) rfl 0 rfl rfl rfl rfl hl.1 rfl (Nat.le_of_ble_eq_true rfl) dX4_high_70 ⟨Nat.zero_le _, Nat.zero_le _⟩ (fun r23 u9 H locs hw22 hP hD hS => ?_)
        obtain ⟨b18, b19, b20, b21⟩ := u9
        have hP : va_P D vwCl (kX4 cB cI mo mb ma b18 b19 b20 b21 w_sp b1 w_on w_wt w_ht w_bg w_cn w_al x17 w_ie w_ww w_th w_mm w_bs) H := hP
        have hD : va_D A (kX4 cB cI mo mb ma b18 b19 b20 b21 w_sp b1 w_on w_wt w_ht w_bg w_cn w_al x17 w_ie w_ww w_th w_mm w_bs) := hD
        have hf := hf.trans (kE5 hw22)
        refine va_put (D := D) (ci := 4) (v := .int r23) (ty := .int) (C := RX4) (T := TX4) (N := 18) hx hb hws inlX4 tyX4 tyX4_ok nmX4 hown hK hP hD hS 0 rfl rfl 6 (by decide) (hws _ mw_382) (fun _ h9 => h9) rfl (tyX4_ok 6 (by decide)) rfl rfl (Nat.le_of_ble_eq_true rfl) dX4_high_73 (fun H locs hP hD hS => ?_)
        have hP : va_P D vwCl (kX4 cB cI mo mb ma b18 b19 b20 b21 r23 b1 w_on w_wt w_ht w_bg w_cn w_al x17 w_ie w_ww w_th w_mm w_bs) H := hP
        have hD : va_D A (kX4 cB cI mo mb ma b18 b19 b20 b21 r23 b1 w_on w_wt w_ht w_bg w_cn w_al x17 w_ie w_ww w_th w_mm w_bs) := hD
        refine lv_goto (tgt := 99) hx hb dX4_high_76 (by decide) ?_
        rw [← hQ]
        exact W.vret hx hb hr (fun t ht hW => ⟨⟨(b18, b19, b20, b21, r23, b1, w_cn, x17, w_mm, w_bs), rfl, hf.symm, by rw [ht]; exact hP, va_K.moved hW.alike hK, hD⟩, hS.F ht⟩) hS.2.2 dX4_high_99
    · have hf := hf.trans (kt_eq c6)
      refine lv_aload_n hx hb dX4_high_34 rfl (lv_at hl 1 rfl) ?_
      refine va_get (D := D) (ci := 4) (v := .ref ma) (C := RX4) (T := TX4) (N := 18) hx hb hws inlX4 hown hK hP 0 rfl rfl 1 (by decide) (hws _ mw_45) (fun _ h9 => h9) rfl dX4_high_35 ?_
      refine lv_bipush (v := 7) hx hb dX4_high_38 (by decide) ?_
      refine lv_aload_n hx hb dX4_high_40 rfl (lv_at hl 1 rfl) ?_
      refine lv_ldc (v := 65280) hx hb hown (hws _ mw_526) dX4_high_41 ?_
      refine lv_iload_n hx hb dX4_high_43 rfl (lv_at hl 0 rfl) ?_
      refine lv_iadd hx hb dX4_high_44 ?_
      refine kc_Vi (wr := []) (As := [.int ((65280 : Int32) + r4)]) (rest := [.int (7 : Int32), .ref ma]) (fun u9 => (kX4 cB cI mo mb ma w_zf w_nf w_hf w_cf w_sp b1 w_on w_wt w_ht w_bg w_cn w_al u9 w_ie w_ww w_th w_mm w_bs)) ⟨hx, hb, hml, hown, hws⟩ hK hP hD hS hA hT (c_X4_reads l D cB cI mo mb ma H.size w_zf w_nf w_hf w_cf w_sp b1 w_on w_wt w_ht w_bg w_cn w_al b2 w_ie w_ww w_th w_mm w_bs ((65280 : Int32) + r4)) (cwV 1 hws (gw_V mw_406 mw_407 mw_408 mw_5 mw_409) rfl rfl rfl hdX4_reads ⟨Nat.le_of_ble_eq_true rfl, Nat.le_of_ble_eq_true rfl⟩) [0, 1, 2] [] [0, 1] [0, 1, 2] rfl rfl rfl rfl (by decide) rfl (fun _ => rfl) rfl 0 rfl rfl rfl rfl hl.1 rfl (Nat.le_of_ble_eq_true rfl) dX4_high_45 ⟨Nat.zero_le _, Nat.zero_le _⟩ (fun r26 b24 H locs hw25 hP hD hS => ?_)
      have hP : va_P D vwCl (kX4 cB cI mo mb ma w_zf w_nf w_hf w_cf w_sp b1 w_on w_wt w_ht w_bg w_cn w_al b24 w_ie w_ww w_th w_mm w_bs) H := hP
      have hD : va_D A (kX4 cB cI mo mb ma w_zf w_nf w_hf w_cf w_sp b1 w_on w_wt w_ht w_bg w_cn w_al b24 w_ie w_ww w_th w_mm w_bs) := hD
      have hf := hf.trans (kE2 hw25)
      refine va_iast hx hb hK hP hD hS 2 1 rfl rfl (by unfold vp_in; decide) dX4_high_48 (fun H locs hP hD hS => ?_)
      obtain ⟨f27, ef27⟩ : ∃ f9 : Nat → Int32, f9 = upd w_bs (7 : Int32).toNatClampNeg r26 := ⟨_, rfl⟩
      have hf := hf.trans (kE1 ef27)
      have hP : va_P D vwCl (kX4 cB cI mo mb ma w_zf w_nf w_hf w_cf w_sp b1 w_on w_wt w_ht w_bg w_cn w_al b24 w_ie w_ww w_th w_mm f27) H := by rw [ef27]; exact hP
      have hD : va_D A (kX4 cB cI mo mb ma w_zf w_nf w_hf w_cf w_sp b1 w_on w_wt w_ht w_bg w_cn w_al b24 w_ie w_ww w_th w_mm f27) := by rw [ef27]; exact hD
      refine lv_goto (tgt := 99) hx hb dX4_high_49 (by decide) ?_
      rw [← hQ]
      exact W.vret hx hb hr (fun t ht hW => ⟨⟨(w_zf, w_nf, w_hf, w_cf, w_sp, b1, w_cn, b24, w_mm, f27), rfl, hf.symm, by rw [ht]; exact hP, va_K.moved hW.alike hK, hD⟩, hS.F ht⟩) hS.2.2 dX4_high_99
  · have hf := hf.trans (kt_eq c5)
    refine lv_aload_n hx hb dX4_high_10 rfl (lv_at hl 1 rfl) ?_
    refine lv_ldc (v := 65280) hx hb hown (hws _ mw_526) dX4_high_11 ?_
    refine lv_iload_n hx hb dX4_high_13 rfl (lv_at hl 0 rfl) ?_
    refine lv_iadd hx hb dX4_high_14 ?_
    refine lv_aload_n hx hb dX4_high_15 rfl (lv_at hl 1 rfl) ?_
    refine va_get (D := D) (ci := 4) (v := .ref ma) (C := RX4) (T := TX4) (N := 18) hx hb hws inlX4 hown hK hP 0 rfl rfl 1 (by decide) (hws _ mw_45) (fun _ h9 => h9) rfl dX4_high_16 ?_
    refine lv_bipush (v := 7) hx hb dX4_high_19 (by decide) ?_
    refine va_iald hx hb hK hP 2 1 rfl rfl (by unfold vp_in; decide) dX4_high_21 ?_
    refine kc_Vv (wr := []) (As := [.int ((65280 : Int32) + r4), .int (w_bs (7 : Int32).toNatClampNeg)]) (rest := []) (fun u9 => (kX4 cB cI mo mb ma w_zf w_nf w_hf w_cf w_sp b1 w_on w_wt w_ht w_bg (u9.1) w_al (u9.2.1) w_ie w_ww w_th (u9.2.2) w_bs)) ⟨hx, hb, hml, hown, hws⟩ hK hP hD hS hA hT (c_X4_writes l D cB cI mo mb ma H.size w_zf w_nf w_hf w_cf w_sp b1 w_on w_wt w_ht w_bg w_cn w_al b2 w_ie w_ww w_th w_mm w_bs ((65280 : Int32) + r4) (w_bs (7 : Int32).toNatClampNeg)) (cwV 2 hws (gw_V mw_383 mw_384 mw_385 mw_5 mw_386) rfl rfl rfl hdX4_writes ⟨Nat.le_of_ble_eq_true rfl, Nat.le_of_ble_eq_true rfl⟩) [0, 1, 2] [] [0, 1] [0, 1, 2] rfl rfl rfl rfl (by decide) rfl (fun _ => rfl) rfl 0 rfl rfl rfl rfl hl.1 rfl (Nat.le_of_ble_eq_true rfl) dX4_high_22 ⟨Nat.zero_le _, Nat.zero_le _⟩ (fun u9 H locs hw31 hP hD hS => ?_)
    obtain ⟨b28, b29, b30⟩ := u9
    have hP : va_P D vwCl (kX4 cB cI mo mb ma w_zf w_nf w_hf w_cf w_sp b1 w_on w_wt w_ht w_bg b28 w_al b29 w_ie w_ww w_th b30 w_bs) H := hP
    have hD : va_D A (kX4 cB cI mo mb ma w_zf w_nf w_hf w_cf w_sp b1 w_on w_wt w_ht w_bg b28 w_al b29 w_ie w_ww w_th b30 w_bs) := hD
    have hf := hf.trans (kE3 hw31)
    refine lv_goto (tgt := 99) hx hb dX4_high_25 (by decide) ?_
    rw [← hQ]
    exact W.vret hx hb hr (fun t ht hW => ⟨⟨(w_zf, w_nf, w_hf, w_cf, w_sp, b1, b28, b29, b30, w_bs), rfl, hf.symm, by rw [ht]; exact hP, va_K.moved hW.alike hK, hD⟩, hS.F ht⟩) hS.2.2 dX4_high_99
def fX4_popsOr (w_zf : Bool) (w_nf : Bool) (w_hf : Bool) (w_cf : Bool) (w_sp : Int32) (w_pc : Int32) (w_on : Bool) (w_wt : Bool) (w_cl : Int32) (w_mm : Nat → Int32) (w_bs : Nat → Int32) (a1 : Int32) : Bool × Bool × Bool × Bool × Int32 × Int32 × Bool × Bool × Int32 × (Nat → Int32) := (kIf (kEq (a1 - a1 / (2 : Int32) * (2 : Int32)) (0 : Int32)) (kU3 (fX4_pop w_sp w_cl w_mm) (fun (r18 : Int32) (b15 : Int32) (b16 : Int32) => (kU5 (((kIf (kEq a1 (6 : Int32)) (kU1 (upd w_bs (7 : Int32).toNatClampNeg (r18 >>> ((8 : Int32) &&& (31 : Int32)))) (fun (f22 : Nat → Int32) => (kU4 (fX4_setFlags w_zf w_nf w_hf w_cf r18) (fun (b23 : Bool) (b24 : Bool) (b25 : Bool) (b26 : Bool) => (b23, b24, b25, b26, f22))))) (kU1 (fX4_setPair w_bs (a1 >>> ((1 : Int32) &&& (31 : Int32))) r18) (fun (b20 : Nat → Int32) => (w_zf, w_nf, w_hf, w_cf, b20)))) : Bool × Bool × Bool × Bool × (Nat → Int32))) (fun (b28 : Bool) (b29 : Bool) (b30 : Bool) (b31 : Bool) (b32 : Nat → Int32) => (b28, b29, b30, b31, b15, w_pc, w_on, w_wt, b16, b32))))) (kIf (kEq a1 (5 : Int32)) (kU1 (fX4_hl w_bs) (fun (r14 : Int32) => (w_zf, w_nf, w_hf, w_cf, w_sp, r14, w_on, w_wt, w_cl, w_bs))) (kIf (kEq a1 (7 : Int32)) (kU1 ((w_cl + (1 : Int32))) (fun (x10 : Int32) => (kU1 (fX4_hl w_bs) (fun (r12 : Int32) => (w_zf, w_nf, w_hf, w_cf, r12, w_pc, w_on, w_wt, x10, w_bs))))) (kU3 (fX4_pop w_sp w_cl w_mm) (fun (r7 : Int32) (b4 : Int32) (b5 : Int32) => (kU1 ((b5 + (1 : Int32))) (fun (x8 : Int32) => (kIf (kEq a1 (3 : Int32)) (w_zf, w_nf, w_hf, w_cf, b4, r7, true, false, x8, w_bs) (w_zf, w_nf, w_hf, w_cf, b4, r7, w_on, w_wt, x8, w_bs)))))))))
def rmX4_popsOr : Room := { frames := 3, cells := 0, slots := 0, locals := 64 }
def wwX4_popsOr : List Cond := Cond.code yX4_popsOr cX4_popsOr 3 none :: wsL_law
theorem hdX4_popsOr : yX4_popsOr.cls = RX4 ∧ yX4_popsOr.cls ≠ "java/lang/invoke/MethodHandle" ∧ yX4_popsOr.cls ≠ "java/lang/invoke/VarHandle" ∧ (parseMethodDescriptor yX4_popsOr.desc).map (fun d => d.parameters.length) = some 1 := by decide +kernel
set_option maxHeartbeats 4000000 in
set_option maxRecDepth 100000 in
theorem c_X4_popsOr (l : Launch) (D : va_G) (cB : ClassId) (cI : ClassId) (mo mb ma sz : Nat) (w_zf : Bool) (w_nf : Bool) (w_hf : Bool) (w_cf : Bool) (w_sp : Int32) (w_pc : Int32) (w_on : Bool) (w_wt : Bool) (w_ht : Bool) (w_bg : Bool) (w_cn : Int32) (w_al : Int32) (w_cl : Int32) (w_ie : Bool) (w_ww : Bool) (w_th : Int32) (w_mm : Nat → Int32) (w_bs : Nat → Int32) (a1 : Int32) (hpre1 : vp_in a1 8) : Met l yX4_popsOr wwX4_popsOr rmX4_popsOr (va_Pc [.ref mo, .int a1] (kp D (kX4 cB cI mo mb ma w_zf w_nf w_hf w_cf w_sp w_pc w_on w_wt w_ht w_bg w_cn w_al w_cl w_ie w_ww w_th w_mm w_bs) [(cB, .byte), (cI, .int)] sz)) (va_Qv (fun (u9 : Bool × Bool × Bool × Bool × Int32 × Int32 × Bool × Bool × Int32 × (Nat → Int32)) => u9 = fX4_popsOr w_zf w_nf w_hf w_cf w_sp w_pc w_on w_wt w_cl w_mm w_bs a1) (fun u9 t => kq D (kX4 cB cI mo mb ma (u9.1) (u9.2.1) (u9.2.2.1) (u9.2.2.2.1) (u9.2.2.2.2.1) (u9.2.2.2.2.2.1) (u9.2.2.2.2.2.2.1) (u9.2.2.2.2.2.2.2.1) w_ht w_bg w_cn w_al (u9.2.2.2.2.2.2.2.2.1) w_ie w_ww w_th w_mm (u9.2.2.2.2.2.2.2.2.2)) [(cB, .byte), (cI, .int)] (va_A (kX4 cB cI mo mb ma w_zf w_nf w_hf w_cf w_sp w_pc w_on w_wt w_ht w_bg w_cn w_al w_cl w_ie w_ww w_th w_mm w_bs) sz) t) (va_A (kX4 cB cI mo mb ma w_zf w_nf w_hf w_cf w_sp w_pc w_on w_wt w_ht w_bg w_cn w_al w_cl w_ie w_ww w_th w_mm w_bs) sz)) 0 0 (va_A (kX4 cB cI mo mb ma w_zf w_nf w_hf w_cf w_sp w_pc w_on w_wt w_ht w_bg w_cn w_al w_cl w_ie w_ww w_th w_mm w_bs) sz) := by
  refine Met.ofW (cc := cX4_popsOr) (maxL := 3) (ret := none) (by decide) rfl ?_
  intro p e s m args below meth c s₁ B hml hv
  obtain ⟨rfl, hsz, hP, hK, hD0, hT⟩ := hv
  have hx := B.exec
  have hb := B.bytes
  have hr := B.returns
  have hts := atoms_spec (ws := wwX4_popsOr) B.pre
  have hws : ∀ w ∈ wsL_law, w.before _ s = true := fun w h => hts w (List.mem_cons_of_mem _ h)
  have hown : s.vm.findClass RX4 = some m.cls := findClass_of_methodNamed B.named
  have hlocks := B.notSynchronized
  subst hsz
  have hD := hD0.self (sz := s.heap.size)
  generalize hAe : va_A (kX4 cB cI mo mb ma w_zf w_nf w_hf w_cf w_sp w_pc w_on w_wt w_ht w_bg w_cn w_al w_cl w_ie w_ww w_th w_mm w_bs) s.heap.size = A at hD hT ⊢
  have hA : ∀ q : Nat, s.heap.size ≤ q → A q := fun q h => by rw [← hAe]; exact Or.inr h
  have hS : va_S A s.heap s.heap [] := va_S.rf
  have hl := lv_entry ([.ref mo, .int a1]) (n := 3) (Nat.le_of_ble_eq_true rfl)
  rw [lg_entry_eq]
  generalize (lg_sl ([.ref mo, .int a1]) ++ List.replicate (3 - (lg_sl ([.ref mo, .int a1])).length) Slot.unset).toArray = ls at hl ⊢
  have hl : lv_has ls 3 [(0, .ref mo), (1, .int a1)] := hl
  generalize hQ : MQ _ _ _ _ _ _ _ = Q
  obtain ⟨H, hHe⟩ : ∃ H : Heap, H = s.heap := ⟨_, rfl⟩
  obtain ⟨locs, hle⟩ : ∃ L : List Loc, L = [] := ⟨_, rfl⟩
  have hP : va_P D vwCl (kX4 cB cI mo mb ma w_zf w_nf w_hf w_cf w_sp w_pc w_on w_wt w_ht w_bg w_cn w_al w_cl w_ie w_ww w_th w_mm w_bs) H := by rw [hHe]; exact hP
  have hS : va_S A s.heap H locs := by rw [hHe, hle]; exact hS
  refine kw_start hHe.symm hle.symm ?_
  have hf : fX4_popsOr w_zf w_nf w_hf w_cf w_sp w_pc w_on w_wt w_cl w_mm w_bs a1 = fX4_popsOr w_zf w_nf w_hf w_cf w_sp w_pc w_on w_wt w_cl w_mm w_bs a1 := rfl
  refine lv_iload_n hx hb dX4_popsOr_0 rfl (lv_at hl 1 rfl) ?_
  refine lv_iconst (v := 2) hx hb dX4_popsOr_1 (by decide) ?_
  refine lv_irem hx hb dX4_popsOr_2 (by decide) ?_
  refine lv_if_ne (tgt := 47) hx hb dX4_popsOr_3 (by decide) (fun c1 => ?_) (fun c1 => ?_)
  · have hf := hf.trans (kf_eq c1)
    refine lv_iload_n hx hb dX4_popsOr_47 rfl (lv_at hl 1 rfl) ?_
    refine lv_iconst (v := 5) hx hb dX4_popsOr_48 (by decide) ?_
    refine lv_icmp_ne (tgt := 63) hx hb dX4_popsOr_49 (by decide) (fun c2 => ?_) (fun c2 => ?_)
    · have hf := hf.trans (kf_eq c2)
      refine lv_iload_n hx hb dX4_popsOr_63 rfl (lv_at hl 1 rfl) ?_
      refine lv_bipush (v := 7) hx hb dX4_popsOr_64 (by decide) ?_
      refine lv_icmp_ne (tgt := 90) hx hb dX4_popsOr_66 (by decide) (fun c3 => ?_) (fun c3 => ?_)
      · have hf := hf.trans (kf_eq c3)
        refine lv_aload_n hx hb dX4_popsOr_90 rfl (lv_at hl 0 rfl) ?_
        refine lv_aload_n hx hb dX4_popsOr_91 rfl (lv_at hl 0 rfl) ?_
        refine kc_Vi (wr := []) (As := []) (rest := [.ref mo]) (fun u9 => (kX4 cB cI mo mb ma w_zf w_nf w_hf w_cf (u9.1) w_pc w_on w_wt w_ht w_bg w_cn w_al (u9.2) w_ie w_ww w_th w_mm w_bs)) ⟨hx, hb, hml, hown, hws⟩ hK hP hD hS hA hT (c_X4_pop l D cB cI mo mb ma H.size w_zf w_nf w_hf w_cf w_sp w_pc w_on w_wt w_ht w_bg w_cn w_al w_cl w_ie w_ww w_th w_mm w_bs ) (cwV 0 hws (gw_V mw_518 mw_519 mw_520 mw_5 mw_521) rfl rfl rfl hdX4_pop ⟨Nat.le_of_ble_eq_true rfl, Nat.le_of_ble_eq_true rfl⟩) [0, 1, 2] [] [0, 1] [0, 1, 2] rfl rfl rfl rfl (by decide) rfl (fun _ => rfl) rfl 0 rfl rfl rfl rfl hl.1 rfl (Nat.le_of_ble_eq_true rfl) dX4_popsOr_92 ⟨Nat.zero_le _, Nat.zero_le _⟩ (fun r7 u9 H locs hw6 hP hD hS => ?_)
        obtain ⟨b4, b5⟩ := u9
        have hP : va_P D vwCl (kX4 cB cI mo mb ma w_zf w_nf w_hf w_cf b4 w_pc w_on w_wt w_ht w_bg w_cn w_al b5 w_ie w_ww w_th w_mm w_bs) H := hP
        have hD : va_D A (kX4 cB cI mo mb ma w_zf w_nf w_hf w_cf b4 w_pc w_on w_wt w_ht w_bg w_cn w_al b5 w_ie w_ww w_th w_mm w_bs) := hD
        have hf := hf.trans (kE3 hw6)
        refine va_put (D := D) (ci := 4) (v := .int r7) (ty := .int) (C := RX4) (T := TX4) (N := 18) hx hb hws inlX4 tyX4 tyX4_ok nmX4 hown hK hP hD hS 0 rfl rfl 7 (by decide) (hws _ mw_370) (fun _ h9 => h9) rfl (tyX4_ok 7 (by decide)) rfl rfl (Nat.le_of_ble_eq_true rfl) dX4_popsOr_95 (fun H locs hP hD hS => ?_)
        have hP : va_P D vwCl (kX4 cB cI mo mb ma w_zf w_nf w_hf w_cf b4 r7 w_on w_wt w_ht w_bg w_cn w_al b5 w_ie w_ww w_th w_mm w_bs) H := hP
        have hD : va_D A (kX4 cB cI mo mb ma w_zf w_nf w_hf w_cf b4 r7 w_on w_wt w_ht w_bg w_cn w_al b5 w_ie w_ww w_th w_mm w_bs) := hD
        refine lv_aload_n hx hb dX4_popsOr_98 rfl (lv_at hl 0 rfl) ?_
        refine lv_dup hx hb dX4_popsOr_99 rfl ?_
        refine va_get (D := D) (ci := 4) (v := .int b5) (C := RX4) (T := TX4) (N := 18) hx hb hws inlX4 hown hK hP 0 rfl rfl 14 (by decide) (hws _ mw_367) (fun _ h9 => h9) rfl dX4_popsOr_100 ?_
        refine lv_iconst (v := 1) hx hb dX4_popsOr_103 (by decide) ?_
        refine lv_iadd hx hb dX4_popsOr_104 ?_
        refine lv_topi (fun x8 ex8 => ?_)
        have hf := hf.trans (kE1 ex8)
        refine va_put (D := D) (ci := 4) (v := .int x8) (ty := .int) (C := RX4) (T := TX4) (N := 18) hx hb hws inlX4 tyX4 tyX4_ok nmX4 hown hK hP hD hS 0 rfl rfl 14 (by decide) (hws _ mw_367) (fun _ h9 => h9) rfl (tyX4_ok 14 (by decide)) rfl rfl (Nat.le_of_ble_eq_true rfl) dX4_popsOr_105 (fun H locs hP hD hS => ?_)
        have hP : va_P D vwCl (kX4 cB cI mo mb ma w_zf w_nf w_hf w_cf b4 r7 w_on w_wt w_ht w_bg w_cn w_al x8 w_ie w_ww w_th w_mm w_bs) H := hP
        have hD : va_D A (kX4 cB cI mo mb ma w_zf w_nf w_hf w_cf b4 r7 w_on w_wt w_ht w_bg w_cn w_al x8 w_ie w_ww w_th w_mm w_bs) := hD
        refine lv_iload_n hx hb dX4_popsOr_108 rfl (lv_at hl 1 rfl) ?_
        refine lv_iconst (v := 3) hx hb dX4_popsOr_109 (by decide) ?_
        refine lv_icmp_ne (tgt := 123) hx hb dX4_popsOr_110 (by decide) (fun c9 => ?_) (fun c9 => ?_)
        · have hf := hf.trans (kf_eq c9)
          rw [← hQ]
          exact W.vret hx hb hr (fun t ht hW => ⟨⟨(w_zf, w_nf, w_hf, w_cf, b4, r7, w_on, w_wt, x8, w_bs), rfl, hf.symm, by rw [ht]; exact hP, va_K.moved hW.alike hK, hD⟩, hS.F ht⟩) hS.2.2 dX4_popsOr_123
        · have hf := hf.trans (kt_eq c9)
          refine lv_aload_n hx hb dX4_popsOr_113 rfl (lv_at hl 0 rfl) ?_
          refine lv_iconst (v := 1) hx hb dX4_popsOr_114 (by decide) ?_
          refine va_put (D := D) (ci := 4) (v := .int (bI true)) (ty := .boolean) (C := RX4) (T := TX4) (N := 18) hx hb hws inlX4 tyX4 tyX4_ok nmX4 hown hK hP hD hS 0 rfl rfl 8 (by decide) (hws _ mw_368) (fun _ h9 => h9) rfl (tyX4_ok 8 (by decide)) (bI_nar _) (bI_fit _) (Nat.le_of_ble_eq_true rfl) dX4_popsOr_115 (fun H locs hP hD hS => ?_)
          have hP : va_P D vwCl (kX4 cB cI mo mb ma w_zf w_nf w_hf w_cf b4 r7 true w_wt w_ht w_bg w_cn w_al x8 w_ie w_ww w_th w_mm w_bs) H := hP
          have hD : va_D A (kX4 cB cI mo mb ma w_zf w_nf w_hf w_cf b4 r7 true w_wt w_ht w_bg w_cn w_al x8 w_ie w_ww w_th w_mm w_bs) := hD
          refine lv_aload_n hx hb dX4_popsOr_118 rfl (lv_at hl 0 rfl) ?_
          refine lv_iconst (v := 0) hx hb dX4_popsOr_119 (by decide) ?_
          refine va_put (D := D) (ci := 4) (v := .int (bI false)) (ty := .boolean) (C := RX4) (T := TX4) (N := 18) hx hb hws inlX4 tyX4 tyX4_ok nmX4 hown hK hP hD hS 0 rfl rfl 9 (by decide) (hws _ mw_371) (fun _ h9 => h9) rfl (tyX4_ok 9 (by decide)) (bI_nar _) (bI_fit _) (Nat.le_of_ble_eq_true rfl) dX4_popsOr_120 (fun H locs hP hD hS => ?_)
          have hP : va_P D vwCl (kX4 cB cI mo mb ma w_zf w_nf w_hf w_cf b4 r7 true false w_ht w_bg w_cn w_al x8 w_ie w_ww w_th w_mm w_bs) H := hP
          have hD : va_D A (kX4 cB cI mo mb ma w_zf w_nf w_hf w_cf b4 r7 true false w_ht w_bg w_cn w_al x8 w_ie w_ww w_th w_mm w_bs) := hD
          rw [← hQ]
          exact W.vret hx hb hr (fun t ht hW => ⟨⟨(w_zf, w_nf, w_hf, w_cf, b4, r7, true, false, x8, w_bs), rfl, hf.symm, by rw [ht]; exact hP, va_K.moved hW.alike hK, hD⟩, hS.F ht⟩) hS.2.2 dX4_popsOr_123
      · have hf := hf.trans (kt_eq c3)
        refine lv_aload_n hx hb dX4_popsOr_69 rfl (lv_at hl 0 rfl) ?_
        refine lv_dup hx hb dX4_popsOr_70 rfl ?_
        refine va_get (D := D) (ci := 4) (v := .int w_cl) (C := RX4) (T := TX4) (N := 18) hx hb hws inlX4 hown hK hP 0 rfl rfl 14 (by decide) (hws _ mw_367) (fun _ h9 => h9) rfl dX4_popsOr_71 ?_
        refine lv_iconst (v := 1) hx hb dX4_popsOr_74 (by decide) ?_
        refine lv_iadd hx hb dX4_popsOr_75 ?_
        refine lv_topi (fun x10 ex10 => ?_)
        have hf := hf.trans (kE1 ex10)
        refine va_put (D := D) (ci := 4) (v := .int x10) (ty := .int) (C := RX4) (T := TX4) (N := 18) hx hb hws inlX4 tyX4 tyX4_ok nmX4 hown hK hP hD hS 0 rfl rfl 14 (by decide) (hws _ mw_367) (fun _ h9 => h9) rfl (tyX4_ok 14 (by decide)) rfl rfl (Nat.le_of_ble_eq_true rfl) dX4_popsOr_76 (fun H locs hP hD hS => ?_)
        have hP : va_P D vwCl (kX4 cB cI mo mb ma w_zf w_nf w_hf w_cf w_sp w_pc w_on w_wt w_ht w_bg w_cn w_al x10 w_ie w_ww w_th w_mm w_bs) H := hP
        have hD : va_D A (kX4 cB cI mo mb ma w_zf w_nf w_hf w_cf w_sp w_pc w_on w_wt w_ht w_bg w_cn w_al x10 w_ie w_ww w_th w_mm w_bs) := hD
        refine lv_aload_n hx hb dX4_popsOr_79 rfl (lv_at hl 0 rfl) ?_
        refine lv_aload_n hx hb dX4_popsOr_80 rfl (lv_at hl 0 rfl) ?_
        refine kc_Vi (wr := []) (As := []) (rest := [.ref mo]) (fun _ => (kX4 cB cI mo mb ma w_zf w_nf w_hf w_cf w_sp w_pc w_on w_wt w_ht w_bg w_cn w_al x10 w_ie w_ww w_th w_mm w_bs)) ⟨hx, hb, hml, hown, hws⟩ hK hP hD hS hA hT (c_X4_hl l D cB cI mo mb ma H.size w_zf w_nf w_hf w_cf w_sp w_pc w_on w_wt w_ht w_bg w_cn w_al x10 w_ie w_ww w_th w_mm w_bs ) (cwV 0 hws (gw_V mw_436 mw_437 mw_438 mw_5 mw_439) rfl rfl rfl hdX4_hl ⟨Nat.le_of_ble_eq_true rfl, Nat.le_of_ble_eq_true rfl⟩) [0, 1, 2] [] [0, 1] [0, 1, 2] rfl rfl rfl rfl (by decide) rfl (fun _ => rfl) rfl 0 rfl rfl rfl rfl hl.1 rfl (Nat.le_of_ble_eq_true rfl) dX4_popsOr_81 ⟨Nat.zero_le _, Nat.zero_le _⟩ (fun r12 _ H locs hw11 hP hD hS => ?_)
        have hP : va_P D vwCl (kX4 cB cI mo mb ma w_zf w_nf w_hf w_cf w_sp w_pc w_on w_wt w_ht w_bg w_cn w_al x10 w_ie w_ww w_th w_mm w_bs) H := hP
        have hD : va_D A (kX4 cB cI mo mb ma w_zf w_nf w_hf w_cf w_sp w_pc w_on w_wt w_ht w_bg w_cn w_al x10 w_ie w_ww w_th w_mm w_bs) := hD
        have hf := hf.trans (kE1 hw11)
        refine va_put (D := D) (ci := 4) (v := .int r12) (ty := .int) (C := RX4) (T := TX4) (N := 18) hx hb hws inlX4 tyX4 tyX4_ok nmX4 hown hK hP hD hS 0 rfl rfl 6 (by decide) (hws _ mw_382) (fun _ h9 => h9) rfl (tyX4_ok 6 (by decide)) rfl rfl (Nat.le_of_ble_eq_true rfl) dX4_popsOr_84 (fun H locs hP hD hS => ?_)
        have hP : va_P D vwCl (kX4 cB cI mo mb ma w_zf w_nf w_hf w_cf r12 w_pc w_on w_wt w_ht w_bg w_cn w_al x10 w_ie w_ww w_th w_mm w_bs) H := hP
        have hD : va_D A (kX4 cB cI mo mb ma w_zf w_nf w_hf w_cf r12 w_pc w_on w_wt w_ht w_bg w_cn w_al x10 w_ie w_ww w_th w_mm w_bs) := hD
        refine lv_goto (tgt := 123) hx hb dX4_popsOr_87 (by decide) ?_
        rw [← hQ]
        exact W.vret hx hb hr (fun t ht hW => ⟨⟨(w_zf, w_nf, w_hf, w_cf, r12, w_pc, w_on, w_wt, x10, w_bs), rfl, hf.symm, by rw [ht]; exact hP, va_K.moved hW.alike hK, hD⟩, hS.F ht⟩) hS.2.2 dX4_popsOr_123
    · have hf := hf.trans (kt_eq c2)
      refine lv_aload_n hx hb dX4_popsOr_52 rfl (lv_at hl 0 rfl) ?_
      refine lv_aload_n hx hb dX4_popsOr_53 rfl (lv_at hl 0 rfl) ?_
      refine kc_Vi (wr := []) (As := []) (rest := [.ref mo]) (fun _ => (kX4 cB cI mo mb ma w_zf w_nf w_hf w_cf w_sp w_pc w_on w_wt w_ht w_bg w_cn w_al w_cl w_ie w_ww w_th w_mm w_bs)) ⟨hx, hb, hml, hown, hws⟩ hK hP hD hS hA hT (c_X4_hl l D cB cI mo mb ma H.size w_zf w_nf w_hf w_cf w_sp w_pc w_on w_wt w_ht w_bg w_cn w_al w_cl w_ie w_ww w_th w_mm w_bs ) (cwV 0 hws (gw_V mw_436 mw_437 mw_438 mw_5 mw_439) rfl rfl rfl hdX4_hl ⟨Nat.le_of_ble_eq_true rfl, Nat.le_of_ble_eq_true rfl⟩) [0, 1, 2] [] [0, 1] [0, 1, 2] rfl rfl rfl rfl (by decide) rfl (fun _ => rfl) rfl 0 rfl rfl rfl rfl hl.1 rfl (Nat.le_of_ble_eq_true rfl) dX4_popsOr_54 ⟨Nat.zero_le _, Nat.zero_le _⟩ (fun r14 _ H locs hw13 hP hD hS => ?_)
      have hP : va_P D vwCl (kX4 cB cI mo mb ma w_zf w_nf w_hf w_cf w_sp w_pc w_on w_wt w_ht w_bg w_cn w_al w_cl w_ie w_ww w_th w_mm w_bs) H := hP
      have hD : va_D A (kX4 cB cI mo mb ma w_zf w_nf w_hf w_cf w_sp w_pc w_on w_wt w_ht w_bg w_cn w_al w_cl w_ie w_ww w_th w_mm w_bs) := hD
      have hf := hf.trans (kE1 hw13)
      refine va_put (D := D) (ci := 4) (v := .int r14) (ty := .int) (C := RX4) (T := TX4) (N := 18) hx hb hws inlX4 tyX4 tyX4_ok nmX4 hown hK hP hD hS 0 rfl rfl 7 (by decide) (hws _ mw_370) (fun _ h9 => h9) rfl (tyX4_ok 7 (by decide)) rfl rfl (Nat.le_of_ble_eq_true rfl) dX4_popsOr_57 (fun H locs hP hD hS => ?_)
      have hP : va_P D vwCl (kX4 cB cI mo mb ma w_zf w_nf w_hf w_cf w_sp r14 w_on w_wt w_ht w_bg w_cn w_al w_cl w_ie w_ww w_th w_mm w_bs) H := hP
      have hD : va_D A (kX4 cB cI mo mb ma w_zf w_nf w_hf w_cf w_sp r14 w_on w_wt w_ht w_bg w_cn w_al w_cl w_ie w_ww w_th w_mm w_bs) := hD
      refine lv_goto (tgt := 123) hx hb dX4_popsOr_60 (by decide) ?_
      rw [← hQ]
      exact W.vret hx hb hr (fun t ht hW => ⟨⟨(w_zf, w_nf, w_hf, w_cf, w_sp, r14, w_on, w_wt, w_cl, w_bs), rfl, hf.symm, by rw [ht]; exact hP, va_K.moved hW.alike hK, hD⟩, hS.F ht⟩) hS.2.2 dX4_popsOr_123
  · have hf := hf.trans (kt_eq c1)
    refine lv_aload_n hx hb dX4_popsOr_6 rfl (lv_at hl 0 rfl) ?_
    refine kc_Vi (wr := []) (As := []) (rest := []) (fun u9 => (kX4 cB cI mo mb ma w_zf w_nf w_hf w_cf (u9.1) w_pc w_on w_wt w_ht w_bg w_cn w_al (u9.2) w_ie w_ww w_th w_mm w_bs)) ⟨hx, hb, hml, hown, hws⟩ hK hP hD hS hA hT (c_X4_pop l D cB cI mo mb ma H.size w_zf w_nf w_hf w_cf w_sp w_pc w_on w_wt w_ht w_bg w_cn w_al w_cl w_ie w_ww w_th w_mm w_bs ) (cwV 0 hws (gw_V mw_518 mw_519 mw_520 mw_5 mw_521) rfl rfl rfl hdX4_pop ⟨Nat.le_of_ble_eq_true rfl, Nat.le_of_ble_eq_true rfl⟩) [0, 1, 2] [] [0, 1] [0, 1, 2] rfl rfl rfl rfl (by decide) rfl (fun _ => rfl) rfl 0 rfl rfl rfl rfl hl.1 rfl (Nat.le_of_ble_eq_true rfl) dX4_popsOr_7 ⟨Nat.zero_le _, Nat.zero_le _⟩ (fun r18 u9 H locs hw17 hP hD hS => ?_)
    obtain ⟨b15, b16⟩ := u9
    have hP : va_P D vwCl (kX4 cB cI mo mb ma w_zf w_nf w_hf w_cf b15 w_pc w_on w_wt w_ht w_bg w_cn w_al b16 w_ie w_ww w_th w_mm w_bs) H := hP
    have hD : va_D A (kX4 cB cI mo mb ma w_zf w_nf w_hf w_cf b15 w_pc w_on w_wt w_ht w_bg w_cn w_al b16 w_ie w_ww w_th w_mm w_bs) := hD
    have hf := hf.trans (kE3 hw17)
    refine lv_istore_n (lv' := [(2, .int r18), (0, .ref mo), (1, .int a1)]) hx hb dX4_popsOr_10 rfl hl (by decide) rfl (fun ls hl => ?_)
    refine lv_iload_n hx hb dX4_popsOr_11 rfl (lv_at hl 2 rfl) ?_
    refine lv_bipush (v := 6) hx hb dX4_popsOr_12 (by decide) ?_
    obtain ⟨TJ33, hTJ33⟩ : ∃ T9 : Bool × Bool × Bool × Bool × (Nat → Int32), T9 = (kIf (kEq a1 (6 : Int32)) (kU1 (upd w_bs (7 : Int32).toNatClampNeg (r18 >>> ((8 : Int32) &&& (31 : Int32)))) (fun (f22 : Nat → Int32) => (kU4 (fX4_setFlags w_zf w_nf w_hf w_cf r18) (fun (b23 : Bool) (b24 : Bool) (b25 : Bool) (b26 : Bool) => (b23, b24, b25, b26, f22))))) (kU1 (fX4_setPair w_bs (a1 >>> ((1 : Int32) &&& (31 : Int32))) r18) (fun (b20 : Nat → Int32) => (w_zf, w_nf, w_hf, w_cf, b20)))) := ⟨_, rfl⟩
    have J33 : ∀ (b28 : Bool) (b29 : Bool) (b30 : Bool) (b31 : Bool) (b32 : Nat → Int32), (b28, b29, b30, b31, b32) = TJ33 → ∀ (H : Heap) (locs : List Loc) (ls : Array Slot), lv_has ls 3 [(2, .int r18), (0, .ref mo), (1, .int a1)] → va_P D vwCl (kX4 cB cI mo mb ma b28 b29 b30 b31 b15 w_pc w_on w_wt w_ht w_bg w_cn w_al b16 w_ie w_ww w_th w_mm b32) H → va_D A (kX4 cB cI mo mb ma b28 b29 b30 b31 b15 w_pc w_on w_wt w_ht w_bg w_cn w_al b16 w_ie w_ww w_th w_mm b32) → va_S A s.heap H locs → W p l e (headSpec wwX4_popsOr rmX4_popsOr).room s m ([.ref mo, .int a1] : List Value).toArray below meth c H locs 0 0 Q (F0 m 44 ls []) := by
      intro b28 b29 b30 b31 b32 eJ33 H locs ls hl hP hD hS
      have hf := hf.trans (kE5 (eJ33.trans hTJ33))
      refine lv_goto (tgt := 123) hx hb dX4_popsOr_44 (by decide) ?_
      rw [← hQ]
      exact W.vret hx hb hr (fun t ht hW => ⟨⟨(b28, b29, b30, b31, b15, w_pc, w_on, w_wt, b16, b32), rfl, hf.symm, by rw [ht]; exact hP, va_K.moved hW.alike hK, hD⟩, hS.F ht⟩) hS.2.2 dX4_popsOr_123
    have hf := hTJ33
    refine lv_icmp_ne (tgt := 36) hx hb dX4_popsOr_14 (by decide) (fun c19 => ?_) (fun c19 => ?_)
    · have hf := hf.trans (kf_eq c19)
      refine lv_aload_n hx hb dX4_popsOr_36 rfl (lv_at hl 1 rfl) ?_
      refine lv_iload_n hx hb dX4_popsOr_37 rfl (lv_at hl 2 rfl) ?_
      refine lv_iconst (v := 1) hx hb dX4_popsOr_38 (by decide) ?_
      refine lv_ishr hx hb dX4_popsOr_39 ?_
      refine lv_iload_n hx hb dX4_popsOr_40 rfl (lv_at hl 0 rfl) ?_
      refine kc_Vv (wr := []) (As := [.int (a1 >>> ((1 : Int32) &&& (31 : Int32))), .int r18]) (rest := []) (fun u9 => (kX4 cB cI mo mb ma w_zf w_nf w_hf w_cf b15 w_pc w_on w_wt w_ht w_bg w_cn w_al b16 w_ie w_ww w_th w_mm u9)) ⟨hx, hb, hml, hown, hws⟩ hK hP hD hS hA hT (c_X4_setPair l D cB cI mo mb ma H.size w_zf w_nf w_hf w_cf b15 w_pc w_on w_wt w_ht w_bg w_cn w_al b16 w_ie w_ww w_th w_mm w_bs (a1 >>> ((1 : Int32) &&& (31 : Int32))) r18 (ki_sh1 hpre1)) (cwV 2 hws (gw_V mw_454 mw_455 mw_456 mw_5 mw_457) rfl rfl rfl hdX4_setPair ⟨Nat.le_of_ble_eq_true rfl, Nat.le_of_ble_eq_true rfl⟩) [0, 1, 2] [] [0, 1] [0, 1, 2] rfl rfl rfl rfl (by decide) rfl (fun _ => rfl) rfl 0 rfl rfl rfl rfl hl.1 rfl (Nat.le_of_ble_eq_true rfl) dX4_popsOr_41 ⟨Nat.zero_le _, Nat.zero_le _⟩ (fun b20 H locs hw21 hP hD hS => ?_)
      have hP : va_P D vwCl (kX4 cB cI mo mb ma w_zf w_nf w_hf w_cf b15 w_pc w_on w_wt w_ht w_bg w_cn w_al b16 w_ie w_ww w_th w_mm b20) H := hP
      have hD : va_D A (kX4 cB cI mo mb ma w_zf w_nf w_hf w_cf b15 w_pc w_on w_wt w_ht w_bg w_cn w_al b16 w_ie w_ww w_th w_mm b20) := hD
      have hf := hf.trans (kE1 hw21)
      exact J33 w_zf w_nf w_hf w_cf b20 hf.symm H locs ls (lv_sub hl [0, 1, 2] rfl) hP hD hS
    · have hf := hf.trans (kt_eq c19)
      refine lv_aload_n hx hb dX4_popsOr_17 rfl (lv_at hl 1 rfl) ?_
      refine va_get (D := D) (ci := 4) (v := .ref ma) (C := RX4) (T := TX4) (N := 18) hx hb hws inlX4 hown hK hP 0 rfl rfl 1 (by decide) (hws _ mw_45) (fun _ h9 => h9) rfl dX4_popsOr_18 ?_
      refine lv_bipush (v := 7) hx hb dX4_popsOr_21 (by decide) ?_
      refine lv_iload_n hx hb dX4_popsOr_23 rfl (lv_at hl 0 rfl) ?_
      refine lv_bipush (v := 8) hx hb dX4_popsOr_24 (by decide) ?_
      refine lv_ishr hx hb dX4_popsOr_26 ?_
      refine va_iast hx hb hK hP hD hS 2 1 rfl rfl (by unfold vp_in; decide) dX4_popsOr_27 (fun H locs hP hD hS => ?_)
      obtain ⟨f22, ef22⟩ : ∃ f9 : Nat → Int32, f9 = upd w_bs (7 : Int32).toNatClampNeg (r18 >>> ((8 : Int32) &&& (31 : Int32))) := ⟨_, rfl⟩
      have hf := hf.trans (kE1 ef22)
      have hP : va_P D vwCl (kX4 cB cI mo mb ma w_zf w_nf w_hf w_cf b15 w_pc w_on w_wt w_ht w_bg w_cn w_al b16 w_ie w_ww w_th w_mm f22) H := by rw [ef22]; exact hP
      have hD : va_D A (kX4 cB cI mo mb ma w_zf w_nf w_hf w_cf b15 w_pc w_on w_wt w_ht w_bg w_cn w_al b16 w_ie w_ww w_th w_mm f22) := by rw [ef22]; exact hD
      refine lv_aload_n hx hb dX4_popsOr_28 rfl (lv_at hl 1 rfl) ?_
      refine lv_iload_n hx hb dX4_popsOr_29 rfl (lv_at hl 0 rfl) ?_
      refine kc_Vv (wr := []) (As := [.int r18]) (rest := []) (fun u9 => (kX4 cB cI mo mb ma (u9.1) (u9.2.1) (u9.2.2.1) (u9.2.2.2) b15 w_pc w_on w_wt w_ht w_bg w_cn w_al b16 w_ie w_ww w_th w_mm f22)) ⟨hx, hb, hml, hown, hws⟩ hK hP hD hS hA hT (c_X4_setFlags l D cB cI mo mb ma H.size w_zf w_nf w_hf w_cf b15 w_pc w_on w_wt w_ht w_bg w_cn w_al b16 w_ie w_ww w_th w_mm f22 r18) (cwV 1 hws (gw_V mw_535 mw_536 mw_537 mw_5 mw_538) rfl rfl rfl hdX4_setFlags ⟨Nat.le_of_ble_eq_true rfl, Nat.le_of_ble_eq_true rfl⟩) [0, 1, 2] [] [0, 1] [0, 1, 2] rfl rfl rfl rfl (by decide) rfl (fun _ => rfl) rfl 0 rfl rfl rfl rfl hl.1 rfl (Nat.le_of_ble_eq_true rfl) dX4_popsOr_30 ⟨Nat.zero_le _, Nat.zero_le _⟩ (fun u9 H locs hw27 hP hD hS => ?_)
      obtain ⟨b23, b24, b25, b26⟩ := u9
      have hP : va_P D vwCl (kX4 cB cI mo mb ma b23 b24 b25 b26 b15 w_pc w_on w_wt w_ht w_bg w_cn w_al b16 w_ie w_ww w_th w_mm f22) H := hP
      have hD : va_D A (kX4 cB cI mo mb ma b23 b24 b25 b26 b15 w_pc w_on w_wt w_ht w_bg w_cn w_al b16 w_ie w_ww w_th w_mm f22) := hD
      have hf := hf.trans (kE4 hw27)
      refine lv_goto (tgt := 44) hx hb dX4_popsOr_33 (by decide) ?_
      exact J33 b23 b24 b25 b26 f22 hf.symm H locs ls (lv_sub hl [0, 1, 2] rfl) hP hD hS
def fX4_jumpsIf (w_zf : Bool) (w_cf : Bool) (w_pc : Int32) (w_cl : Int32) (w_mm : Nat → Int32) (a1 : Int32) : Int32 × Int32 := (kU3 (fX4_fetchWord w_pc w_cl w_mm) (fun (r4 : Int32) (b1 : Int32) (b2 : Int32) => (kU1 (fX4_holds w_zf w_cf a1) (fun (z7 : Bool) => (kIf (kEq (bI z7) (0 : Int32)) (b1, b2) (kU1 ((b2 + (1 : Int32))) (fun (x9 : Int32) => (r4, x9))))))))
def rmX4_jumpsIf : Room := { frames := 4, cells := 0, slots := 0, locals := 84 }
def wwX4_jumpsIf : List Cond := Cond.code yX4_jumpsIf cX4_jumpsIf 3 none :: wsL_law
theorem hdX4_jumpsIf : yX4_jumpsIf.cls = RX4 ∧ yX4_jumpsIf.cls ≠ "java/lang/invoke/MethodHandle" ∧ yX4_jumpsIf.cls ≠ "java/lang/invoke/VarHandle" ∧ (parseMethodDescriptor yX4_jumpsIf.desc).map (fun d => d.parameters.length) = some 1 := by decide +kernel
set_option maxHeartbeats 4000000 in
set_option maxRecDepth 100000 in
theorem c_X4_jumpsIf (l : Launch) (D : va_G) (cB : ClassId) (cI : ClassId) (mo mb ma sz : Nat) (w_zf : Bool) (w_nf : Bool) (w_hf : Bool) (w_cf : Bool) (w_sp : Int32) (w_pc : Int32) (w_on : Bool) (w_wt : Bool) (w_ht : Bool) (w_bg : Bool) (w_cn : Int32) (w_al : Int32) (w_cl : Int32) (w_ie : Bool) (w_ww : Bool) (w_th : Int32) (w_mm : Nat → Int32) (w_bs : Nat → Int32) (a1 : Int32)  : Met l yX4_jumpsIf wwX4_jumpsIf rmX4_jumpsIf (va_Pc [.ref mo, .int a1] (kp D (kX4 cB cI mo mb ma w_zf w_nf w_hf w_cf w_sp w_pc w_on w_wt w_ht w_bg w_cn w_al w_cl w_ie w_ww w_th w_mm w_bs) [(cB, .byte), (cI, .int)] sz)) (va_Qv (fun (u9 : Int32 × Int32) => u9 = fX4_jumpsIf w_zf w_cf w_pc w_cl w_mm a1) (fun u9 t => kq D (kX4 cB cI mo mb ma w_zf w_nf w_hf w_cf w_sp (u9.1) w_on w_wt w_ht w_bg w_cn w_al (u9.2) w_ie w_ww w_th w_mm w_bs) [(cB, .byte), (cI, .int)] (va_A (kX4 cB cI mo mb ma w_zf w_nf w_hf w_cf w_sp w_pc w_on w_wt w_ht w_bg w_cn w_al w_cl w_ie w_ww w_th w_mm w_bs) sz) t) (va_A (kX4 cB cI mo mb ma w_zf w_nf w_hf w_cf w_sp w_pc w_on w_wt w_ht w_bg w_cn w_al w_cl w_ie w_ww w_th w_mm w_bs) sz)) 0 0 (va_A (kX4 cB cI mo mb ma w_zf w_nf w_hf w_cf w_sp w_pc w_on w_wt w_ht w_bg w_cn w_al w_cl w_ie w_ww w_th w_mm w_bs) sz) := by
  refine Met.ofW (cc := cX4_jumpsIf) (maxL := 3) (ret := none) (by decide) rfl ?_
  intro p e s m args below meth c s₁ B hml hv
  obtain ⟨rfl, hsz, hP, hK, hD0, hT⟩ := hv
  have hx := B.exec
  have hb := B.bytes
  have hr := B.returns
  have hts := atoms_spec (ws := wwX4_jumpsIf) B.pre
  have hws : ∀ w ∈ wsL_law, w.before _ s = true := fun w h => hts w (List.mem_cons_of_mem _ h)
  have hown : s.vm.findClass RX4 = some m.cls := findClass_of_methodNamed B.named
  have hlocks := B.notSynchronized
  subst hsz
  have hD := hD0.self (sz := s.heap.size)
  generalize hAe : va_A (kX4 cB cI mo mb ma w_zf w_nf w_hf w_cf w_sp w_pc w_on w_wt w_ht w_bg w_cn w_al w_cl w_ie w_ww w_th w_mm w_bs) s.heap.size = A at hD hT ⊢
  have hA : ∀ q : Nat, s.heap.size ≤ q → A q := fun q h => by rw [← hAe]; exact Or.inr h
  have hS : va_S A s.heap s.heap [] := va_S.rf
  have hl := lv_entry ([.ref mo, .int a1]) (n := 3) (Nat.le_of_ble_eq_true rfl)
  rw [lg_entry_eq]
  generalize (lg_sl ([.ref mo, .int a1]) ++ List.replicate (3 - (lg_sl ([.ref mo, .int a1])).length) Slot.unset).toArray = ls at hl ⊢
  have hl : lv_has ls 3 [(0, .ref mo), (1, .int a1)] := hl
  generalize hQ : MQ _ _ _ _ _ _ _ = Q
  obtain ⟨H, hHe⟩ : ∃ H : Heap, H = s.heap := ⟨_, rfl⟩
  obtain ⟨locs, hle⟩ : ∃ L : List Loc, L = [] := ⟨_, rfl⟩
  have hP : va_P D vwCl (kX4 cB cI mo mb ma w_zf w_nf w_hf w_cf w_sp w_pc w_on w_wt w_ht w_bg w_cn w_al w_cl w_ie w_ww w_th w_mm w_bs) H := by rw [hHe]; exact hP
  have hS : va_S A s.heap H locs := by rw [hHe, hle]; exact hS
  refine kw_start hHe.symm hle.symm ?_
  have hf : fX4_jumpsIf w_zf w_cf w_pc w_cl w_mm a1 = fX4_jumpsIf w_zf w_cf w_pc w_cl w_mm a1 := rfl
  refine lv_aload_n hx hb dX4_jumpsIf_0 rfl (lv_at hl 0 rfl) ?_
  refine kc_Vi (wr := []) (As := []) (rest := []) (fun u9 => (kX4 cB cI mo mb ma w_zf w_nf w_hf w_cf w_sp (u9.1) w_on w_wt w_ht w_bg w_cn w_al (u9.2) w_ie w_ww w_th w_mm w_bs)) ⟨hx, hb, hml, hown, hws⟩ hK hP hD hS hA hT (c_X4_fetchWord l D cB cI mo mb ma H.size w_zf w_nf w_hf w_cf w_sp w_pc w_on w_wt w_ht w_bg w_cn w_al w_cl w_ie w_ww w_th w_mm w_bs ) (cwV 0 hws (gw_V mw_418 mw_419 mw_420 mw_5 mw_421) rfl rfl rfl hdX4_fetchWord ⟨Nat.le_of_ble_eq_true rfl, Nat.le_of_ble_eq_true rfl⟩) [0, 1, 2] [] [0, 1] [0, 1, 2] rfl rfl rfl rfl (by decide) rfl (fun _ => rfl) rfl 0 rfl rfl rfl rfl hl.1 rfl (Nat.le_of_ble_eq_true rfl) dX4_jumpsIf_1 ⟨Nat.zero_le _, Nat.zero_le _⟩ (fun r4 u9 H locs hw3 hP hD hS => ?_)
  obtain ⟨b1, b2⟩ := u9
  have hP : va_P D vwCl (kX4 cB cI mo mb ma w_zf w_nf w_hf w_cf w_sp b1 w_on w_wt w_ht w_bg w_cn w_al b2 w_ie w_ww w_th w_mm w_bs) H := hP
  have hD : va_D A (kX4 cB cI mo mb ma w_zf w_nf w_hf w_cf w_sp b1 w_on w_wt w_ht w_bg w_cn w_al b2 w_ie w_ww w_th w_mm w_bs) := hD
  have hf := hf.trans (kE3 hw3)
  refine lv_istore_n (lv' := [(2, .int r4), (0, .ref mo), (1, .int a1)]) hx hb dX4_jumpsIf_4 rfl hl (by decide) rfl (fun ls hl => ?_)
  refine lv_aload_n hx hb dX4_jumpsIf_5 rfl (lv_at hl 1 rfl) ?_
  refine lv_iload_n hx hb dX4_jumpsIf_6 rfl (lv_at hl 2 rfl) ?_
  refine kc_Vi (wr := []) (As := [.int a1]) (rest := []) (fun _ => (kX4 cB cI mo mb ma w_zf w_nf w_hf w_cf w_sp b1 w_on w_wt w_ht w_bg w_cn w_al b2 w_ie w_ww w_th w_mm w_bs)) ⟨hx, hb, hml, hown, hws⟩ hK hP hD hS hA hT (c_X4_holds l D cB cI mo mb ma H.size w_zf w_nf w_hf w_cf w_sp b1 w_on w_wt w_ht w_bg w_cn w_al b2 w_ie w_ww w_th w_mm w_bs a1) (cwV 1 hws (gw_V mw_426 mw_427 mw_428 mw_5 mw_429) rfl rfl rfl hdX4_holds ⟨Nat.le_of_ble_eq_true rfl, Nat.le_of_ble_eq_true rfl⟩) [0, 1, 2] [] [0, 1] [0, 1, 2] rfl rfl rfl rfl (by decide) rfl (fun _ => rfl) rfl 0 rfl rfl rfl rfl hl.1 rfl (Nat.le_of_ble_eq_true rfl) dX4_jumpsIf_7 ⟨Nat.zero_le _, Nat.zero_le _⟩ (fun r6 _ H locs hw5 hP hD hS => ?_)
  obtain ⟨z7, rfl, hw5⟩ := hw5
  have hP : va_P D vwCl (kX4 cB cI mo mb ma w_zf w_nf w_hf w_cf w_sp b1 w_on w_wt w_ht w_bg w_cn w_al b2 w_ie w_ww w_th w_mm w_bs) H := hP
  have hD : va_D A (kX4 cB cI mo mb ma w_zf w_nf w_hf w_cf w_sp b1 w_on w_wt w_ht w_bg w_cn w_al b2 w_ie w_ww w_th w_mm w_bs) := hD
  have hf := hf.trans (kE1 hw5)
  refine lv_if_ne (tgt := 14) hx hb dX4_jumpsIf_10 (by decide) (fun c8 => ?_) (fun c8 => ?_)
  · have hf := hf.trans (kf_eq c8)
    refine lv_aload_n hx hb dX4_jumpsIf_14 rfl (lv_at hl 1 rfl) ?_
    refine lv_dup hx hb dX4_jumpsIf_15 rfl ?_
    refine va_get (D := D) (ci := 4) (v := .int b2) (C := RX4) (T := TX4) (N := 18) hx hb hws inlX4 hown hK hP 0 rfl rfl 14 (by decide) (hws _ mw_367) (fun _ h9 => h9) rfl dX4_jumpsIf_16 ?_
    refine lv_iconst (v := 1) hx hb dX4_jumpsIf_19 (by decide) ?_
    refine lv_iadd hx hb dX4_jumpsIf_20 ?_
    refine lv_topi (fun x9 ex9 => ?_)
    have hf := hf.trans (kE1 ex9)
    refine va_put (D := D) (ci := 4) (v := .int x9) (ty := .int) (C := RX4) (T := TX4) (N := 18) hx hb hws inlX4 tyX4 tyX4_ok nmX4 hown hK hP hD hS 0 rfl rfl 14 (by decide) (hws _ mw_367) (fun _ h9 => h9) rfl (tyX4_ok 14 (by decide)) rfl rfl (Nat.le_of_ble_eq_true rfl) dX4_jumpsIf_21 (fun H locs hP hD hS => ?_)
    have hP : va_P D vwCl (kX4 cB cI mo mb ma w_zf w_nf w_hf w_cf w_sp b1 w_on w_wt w_ht w_bg w_cn w_al x9 w_ie w_ww w_th w_mm w_bs) H := hP
    have hD : va_D A (kX4 cB cI mo mb ma w_zf w_nf w_hf w_cf w_sp b1 w_on w_wt w_ht w_bg w_cn w_al x9 w_ie w_ww w_th w_mm w_bs) := hD
    refine lv_aload_n hx hb dX4_jumpsIf_24 rfl (lv_at hl 1 rfl) ?_
    refine lv_iload_n hx hb dX4_jumpsIf_25 rfl (lv_at hl 0 rfl) ?_
    refine va_put (D := D) (ci := 4) (v := .int r4) (ty := .int) (C := RX4) (T := TX4) (N := 18) hx hb hws inlX4 tyX4 tyX4_ok nmX4 hown hK hP hD hS 0 rfl rfl 7 (by decide) (hws _ mw_370) (fun _ h9 => h9) rfl (tyX4_ok 7 (by decide)) rfl rfl (Nat.le_of_ble_eq_true rfl) dX4_jumpsIf_26 (fun H locs hP hD hS => ?_)
    have hP : va_P D vwCl (kX4 cB cI mo mb ma w_zf w_nf w_hf w_cf w_sp r4 w_on w_wt w_ht w_bg w_cn w_al x9 w_ie w_ww w_th w_mm w_bs) H := hP
    have hD : va_D A (kX4 cB cI mo mb ma w_zf w_nf w_hf w_cf w_sp r4 w_on w_wt w_ht w_bg w_cn w_al x9 w_ie w_ww w_th w_mm w_bs) := hD
    rw [← hQ]
    exact W.vret hx hb hr (fun t ht hW => ⟨⟨(r4, x9), rfl, hf.symm, by rw [ht]; exact hP, va_K.moved hW.alike hK, hD⟩, hS.F ht⟩) hS.2.2 dX4_jumpsIf_29
  · have hf := hf.trans (kt_eq c8)
    rw [← hQ]
    exact W.vret hx hb hr (fun t ht hW => ⟨⟨(b1, b2), rfl, hf.symm, by rw [ht]; exact hP, va_K.moved hW.alike hK, hD⟩, hS.F ht⟩) hS.2.2 dX4_jumpsIf_13
def fX4_far (w_pc : Int32) (w_cn : Int32) (w_cl : Int32) (w_mm : Nat → Int32) (w_bs : Nat → Int32) (a1 : Int32) : Int32 × Int32 × Int32 × (Nat → Int32) × (Nat → Int32) := (kU3 (((kIf (kEq (a1 - a1 / (2 : Int32) * (2 : Int32)) (0 : Int32)) (((65280 : Int32) + (w_bs (1 : Int32).toNatClampNeg)), w_pc, w_cl) (kU3 (fX4_fetchWord w_pc w_cl w_mm) (fun (r5 : Int32) (b2 : Int32) (b3 : Int32) => (r5, b2, b3)))) : Int32 × Int32 × Int32)) (fun (x6 : Int32) (b7 : Int32) (b8 : Int32) => (kIf (kLe (6 : Int32) a1) (kU2 (fX4_reads b8 w_mm x6) (fun (r13 : Int32) (b11 : Int32) => (kU1 (upd w_bs (7 : Int32).toNatClampNeg r13) (fun (f14 : Nat → Int32) => (b7, w_cn, b11, w_mm, f14))))) (kU3 (fX4_writes w_cn b8 w_mm x6 (w_bs (7 : Int32).toNatClampNeg)) (fun (b15 : Int32) (b16 : Int32) (b17 : Nat → Int32) => (b7, b15, b16, b17, w_bs))))))
def rmX4_far : Room := { frames := 4, cells := 0, slots := 0, locals := 84 }
def wwX4_far : List Cond := Cond.code yX4_far cX4_far 3 none :: wsL_law
theorem hdX4_far : yX4_far.cls = RX4 ∧ yX4_far.cls ≠ "java/lang/invoke/MethodHandle" ∧ yX4_far.cls ≠ "java/lang/invoke/VarHandle" ∧ (parseMethodDescriptor yX4_far.desc).map (fun d => d.parameters.length) = some 1 := by decide +kernel
set_option maxHeartbeats 4000000 in
set_option maxRecDepth 100000 in
theorem c_X4_far (l : Launch) (D : va_G) (cB : ClassId) (cI : ClassId) (mo mb ma sz : Nat) (w_zf : Bool) (w_nf : Bool) (w_hf : Bool) (w_cf : Bool) (w_sp : Int32) (w_pc : Int32) (w_on : Bool) (w_wt : Bool) (w_ht : Bool) (w_bg : Bool) (w_cn : Int32) (w_al : Int32) (w_cl : Int32) (w_ie : Bool) (w_ww : Bool) (w_th : Int32) (w_mm : Nat → Int32) (w_bs : Nat → Int32) (a1 : Int32)  : Met l yX4_far wwX4_far rmX4_far (va_Pc [.ref mo, .int a1] (kp D (kX4 cB cI mo mb ma w_zf w_nf w_hf w_cf w_sp w_pc w_on w_wt w_ht w_bg w_cn w_al w_cl w_ie w_ww w_th w_mm w_bs) [(cB, .byte), (cI, .int)] sz)) (va_Qv (fun (u9 : Int32 × Int32 × Int32 × (Nat → Int32) × (Nat → Int32)) => u9 = fX4_far w_pc w_cn w_cl w_mm w_bs a1) (fun u9 t => kq D (kX4 cB cI mo mb ma w_zf w_nf w_hf w_cf w_sp (u9.1) w_on w_wt w_ht w_bg (u9.2.1) w_al (u9.2.2.1) w_ie w_ww w_th (u9.2.2.2.1) (u9.2.2.2.2)) [(cB, .byte), (cI, .int)] (va_A (kX4 cB cI mo mb ma w_zf w_nf w_hf w_cf w_sp w_pc w_on w_wt w_ht w_bg w_cn w_al w_cl w_ie w_ww w_th w_mm w_bs) sz) t) (va_A (kX4 cB cI mo mb ma w_zf w_nf w_hf w_cf w_sp w_pc w_on w_wt w_ht w_bg w_cn w_al w_cl w_ie w_ww w_th w_mm w_bs) sz)) 0 0 (va_A (kX4 cB cI mo mb ma w_zf w_nf w_hf w_cf w_sp w_pc w_on w_wt w_ht w_bg w_cn w_al w_cl w_ie w_ww w_th w_mm w_bs) sz) := by
  refine Met.ofW (cc := cX4_far) (maxL := 3) (ret := none) (by decide) rfl ?_
  intro p e s m args below meth c s₁ B hml hv
  obtain ⟨rfl, hsz, hP, hK, hD0, hT⟩ := hv
  have hx := B.exec
  have hb := B.bytes
  have hr := B.returns
  have hts := atoms_spec (ws := wwX4_far) B.pre
  have hws : ∀ w ∈ wsL_law, w.before _ s = true := fun w h => hts w (List.mem_cons_of_mem _ h)
  have hown : s.vm.findClass RX4 = some m.cls := findClass_of_methodNamed B.named
  have hlocks := B.notSynchronized
  subst hsz
  have hD := hD0.self (sz := s.heap.size)
  generalize hAe : va_A (kX4 cB cI mo mb ma w_zf w_nf w_hf w_cf w_sp w_pc w_on w_wt w_ht w_bg w_cn w_al w_cl w_ie w_ww w_th w_mm w_bs) s.heap.size = A at hD hT ⊢
  have hA : ∀ q : Nat, s.heap.size ≤ q → A q := fun q h => by rw [← hAe]; exact Or.inr h
  have hS : va_S A s.heap s.heap [] := va_S.rf
  have hl := lv_entry ([.ref mo, .int a1]) (n := 3) (Nat.le_of_ble_eq_true rfl)
  rw [lg_entry_eq]
  generalize (lg_sl ([.ref mo, .int a1]) ++ List.replicate (3 - (lg_sl ([.ref mo, .int a1])).length) Slot.unset).toArray = ls at hl ⊢
  have hl : lv_has ls 3 [(0, .ref mo), (1, .int a1)] := hl
  generalize hQ : MQ _ _ _ _ _ _ _ = Q
  obtain ⟨H, hHe⟩ : ∃ H : Heap, H = s.heap := ⟨_, rfl⟩
  obtain ⟨locs, hle⟩ : ∃ L : List Loc, L = [] := ⟨_, rfl⟩
  have hP : va_P D vwCl (kX4 cB cI mo mb ma w_zf w_nf w_hf w_cf w_sp w_pc w_on w_wt w_ht w_bg w_cn w_al w_cl w_ie w_ww w_th w_mm w_bs) H := by rw [hHe]; exact hP
  have hS : va_S A s.heap H locs := by rw [hHe, hle]; exact hS
  refine kw_start hHe.symm hle.symm ?_
  have hf : fX4_far w_pc w_cn w_cl w_mm w_bs a1 = fX4_far w_pc w_cn w_cl w_mm w_bs a1 := rfl
  refine lv_iload_n hx hb dX4_far_0 rfl (lv_at hl 1 rfl) ?_
  refine lv_iconst (v := 2) hx hb dX4_far_1 (by decide) ?_
  refine lv_irem hx hb dX4_far_2 (by decide) ?_
  obtain ⟨TJ9, hTJ9⟩ : ∃ T9 : Int32 × Int32 × Int32, T9 = (kIf (kEq (a1 - a1 / (2 : Int32) * (2 : Int32)) (0 : Int32)) (((65280 : Int32) + (w_bs (1 : Int32).toNatClampNeg)), w_pc, w_cl) (kU3 (fX4_fetchWord w_pc w_cl w_mm) (fun (r5 : Int32) (b2 : Int32) (b3 : Int32) => (r5, b2, b3)))) := ⟨_, rfl⟩
  have J9 : ∀ (x6 : Int32) (b7 : Int32) (b8 : Int32), (x6, b7, b8) = TJ9 → ∀ (H : Heap) (locs : List Loc) (ls : Array Slot), lv_has ls 3 [(0, .ref mo), (1, .int a1)] → va_P D vwCl (kX4 cB cI mo mb ma w_zf w_nf w_hf w_cf w_sp b7 w_on w_wt w_ht w_bg w_cn w_al b8 w_ie w_ww w_th w_mm w_bs) H → va_D A (kX4 cB cI mo mb ma w_zf w_nf w_hf w_cf w_sp b7 w_on w_wt w_ht w_bg w_cn w_al b8 w_ie w_ww w_th w_mm w_bs) → va_S A s.heap H locs → W p l e (headSpec wwX4_far rmX4_far).room s m ([.ref mo, .int a1] : List Value).toArray below meth c H locs 0 0 Q (F0 m 22 ls [.int x6]) := by
    intro x6 b7 b8 eJ9 H locs ls hl hP hD hS
    have hf := hf.trans (kE3 (eJ9.trans hTJ9))
    refine lv_istore_n (lv' := [(2, .int x6), (0, .ref mo), (1, .int a1)]) hx hb dX4_far_22 rfl hl (by decide) rfl (fun ls hl => ?_)
    refine lv_iload_n hx hb dX4_far_23 rfl (lv_at hl 2 rfl) ?_
    refine lv_bipush (v := 6) hx hb dX4_far_24 (by decide) ?_
    refine lv_icmp_ge (tgt := 44) hx hb dX4_far_26 (by decide) (fun c10 => ?_) (fun c10 => ?_)
    · have hf := hf.trans (kt_le c10)
      refine lv_aload_n hx hb dX4_far_44 rfl (lv_at hl 1 rfl) ?_
      refine va_get (D := D) (ci := 4) (v := .ref ma) (C := RX4) (T := TX4) (N := 18) hx hb hws inlX4 hown hK hP 0 rfl rfl 1 (by decide) (hws _ mw_45) (fun _ h9 => h9) rfl dX4_far_45 ?_
      refine lv_bipush (v := 7) hx hb dX4_far_48 (by decide) ?_
      refine lv_aload_n hx hb dX4_far_50 rfl (lv_at hl 1 rfl) ?_
      refine lv_iload_n hx hb dX4_far_51 rfl (lv_at hl 0 rfl) ?_
      refine kc_Vi (wr := []) (As := [.int x6]) (rest := [.int (7 : Int32), .ref ma]) (fun u9 => (kX4 cB cI mo mb ma w_zf w_nf w_hf w_cf w_sp b7 w_on w_wt w_ht w_bg w_cn w_al u9 w_ie w_ww w_th w_mm w_bs)) ⟨hx, hb, hml, hown, hws⟩ hK hP hD hS hA hT (c_X4_reads l D cB cI mo mb ma H.size w_zf w_nf w_hf w_cf w_sp b7 w_on w_wt w_ht w_bg w_cn w_al b8 w_ie w_ww w_th w_mm w_bs x6) (cwV 1 hws (gw_V mw_406 mw_407 mw_408 mw_5 mw_409) rfl rfl rfl hdX4_reads ⟨Nat.le_of_ble_eq_true rfl, Nat.le_of_ble_eq_true rfl⟩) [0, 1, 2] [] [0, 1] [0, 1, 2] rfl rfl rfl rfl (by decide) rfl (fun _ => rfl) rfl 0 rfl rfl rfl rfl hl.1 rfl (Nat.le_of_ble_eq_true rfl) dX4_far_52 ⟨Nat.zero_le _, Nat.zero_le _⟩ (fun r13 b11 H locs hw12 hP hD hS => ?_)
      have hP : va_P D vwCl (kX4 cB cI mo mb ma w_zf w_nf w_hf w_cf w_sp b7 w_on w_wt w_ht w_bg w_cn w_al b11 w_ie w_ww w_th w_mm w_bs) H := hP
      have hD : va_D A (kX4 cB cI mo mb ma w_zf w_nf w_hf w_cf w_sp b7 w_on w_wt w_ht w_bg w_cn w_al b11 w_ie w_ww w_th w_mm w_bs) := hD
      have hf := hf.trans (kE2 hw12)
      refine va_iast hx hb hK hP hD hS 2 1 rfl rfl (by unfold vp_in; decide) dX4_far_55 (fun H locs hP hD hS => ?_)
      obtain ⟨f14, ef14⟩ : ∃ f9 : Nat → Int32, f9 = upd w_bs (7 : Int32).toNatClampNeg r13 := ⟨_, rfl⟩
      have hf := hf.trans (kE1 ef14)
      have hP : va_P D vwCl (kX4 cB cI mo mb ma w_zf w_nf w_hf w_cf w_sp b7 w_on w_wt w_ht w_bg w_cn w_al b11 w_ie w_ww w_th w_mm f14) H := by rw [ef14]; exact hP
      have hD : va_D A (kX4 cB cI mo mb ma w_zf w_nf w_hf w_cf w_sp b7 w_on w_wt w_ht w_bg w_cn w_al b11 w_ie w_ww w_th w_mm f14) := by rw [ef14]; exact hD
      rw [← hQ]
      exact W.vret hx hb hr (fun t ht hW => ⟨⟨(b7, w_cn, b11, w_mm, f14), rfl, hf.symm, by rw [ht]; exact hP, va_K.moved hW.alike hK, hD⟩, hS.F ht⟩) hS.2.2 dX4_far_56
    · have hf := hf.trans (kf_le c10)
      refine lv_aload_n hx hb dX4_far_29 rfl (lv_at hl 1 rfl) ?_
      refine lv_iload_n hx hb dX4_far_30 rfl (lv_at hl 0 rfl) ?_
      refine lv_aload_n hx hb dX4_far_31 rfl (lv_at hl 1 rfl) ?_
      refine va_get (D := D) (ci := 4) (v := .ref ma) (C := RX4) (T := TX4) (N := 18) hx hb hws inlX4 hown hK hP 0 rfl rfl 1 (by decide) (hws _ mw_45) (fun _ h9 => h9) rfl dX4_far_32 ?_
      refine lv_bipush (v := 7) hx hb dX4_far_35 (by decide) ?_
      refine va_iald hx hb hK hP 2 1 rfl rfl (by unfold vp_in; decide) dX4_far_37 ?_
      refine kc_Vv (wr := []) (As := [.int x6, .int (w_bs (7 : Int32).toNatClampNeg)]) (rest := []) (fun u9 => (kX4 cB cI mo mb ma w_zf w_nf w_hf w_cf w_sp b7 w_on w_wt w_ht w_bg (u9.1) w_al (u9.2.1) w_ie w_ww w_th (u9.2.2) w_bs)) ⟨hx, hb, hml, hown, hws⟩ hK hP hD hS hA hT (c_X4_writes l D cB cI mo mb ma H.size w_zf w_nf w_hf w_cf w_sp b7 w_on w_wt w_ht w_bg w_cn w_al b8 w_ie w_ww w_th w_mm w_bs x6 (w_bs (7 : Int32).toNatClampNeg)) (cwV 2 hws (gw_V mw_383 mw_384 mw_385 mw_5 mw_386) rfl rfl rfl hdX4_writes ⟨Nat.le_of_ble_eq_true rfl, Nat.le_of_ble_eq_true rfl⟩) [0, 1, 2] [] [0, 1] [0, 1, 2] rfl rfl rfl rfl (by decide) rfl (fun _ => rfl) rfl 0 rfl rfl rfl rfl hl.1 rfl (Nat.le_of_ble_eq_true rfl) dX4_far_38 ⟨Nat.zero_le _, Nat.zero_le _⟩ (fun u9 H locs hw18 hP hD hS => ?_)
      obtain ⟨b15, b16, b17⟩ := u9
      have hP : va_P D vwCl (kX4 cB cI mo mb ma w_zf w_nf w_hf w_cf w_sp b7 w_on w_wt w_ht w_bg b15 w_al b16 w_ie w_ww w_th b17 w_bs) H := hP
      have hD : va_D A (kX4 cB cI mo mb ma w_zf w_nf w_hf w_cf w_sp b7 w_on w_wt w_ht w_bg b15 w_al b16 w_ie w_ww w_th b17 w_bs) := hD
      have hf := hf.trans (kE3 hw18)
      refine lv_goto (tgt := 56) hx hb dX4_far_41 (by decide) ?_
      rw [← hQ]
      exact W.vret hx hb hr (fun t ht hW => ⟨⟨(b7, b15, b16, b17, w_bs), rfl, hf.symm, by rw [ht]; exact hP, va_K.moved hW.alike hK, hD⟩, hS.F ht⟩) hS.2.2 dX4_far_56
  have hf := hTJ9
  refine lv_if_ne (tgt := 18) hx hb dX4_far_3 (by decide) (fun c1 => ?_) (fun c1 => ?_)
  · have hf := hf.trans (kf_eq c1)
    refine lv_aload_n hx hb dX4_far_18 rfl (lv_at hl 0 rfl) ?_
    refine kc_Vi (wr := []) (As := []) (rest := []) (fun u9 => (kX4 cB cI mo mb ma w_zf w_nf w_hf w_cf w_sp (u9.1) w_on w_wt w_ht w_bg w_cn w_al (u9.2) w_ie w_ww w_th w_mm w_bs)) ⟨hx, hb, hml, hown, hws⟩ hK hP hD hS hA hT (c_X4_fetchWord l D cB cI mo mb ma H.size w_zf w_nf w_hf w_cf w_sp w_pc w_on w_wt w_ht w_bg w_cn w_al w_cl w_ie w_ww w_th w_mm w_bs ) (cwV 0 hws (gw_V mw_418 mw_419 mw_420 mw_5 mw_421) rfl rfl rfl hdX4_fetchWord ⟨Nat.le_of_ble_eq_true rfl, Nat.le_of_ble_eq_true rfl⟩) [0, 1, 2] [] [0, 1] [0, 1, 2] rfl rfl rfl rfl (by decide) rfl (fun _ => rfl) rfl 0 rfl rfl rfl rfl hl.1 rfl (Nat.le_of_ble_eq_true rfl) dX4_far_19 ⟨Nat.zero_le _, Nat.zero_le _⟩ (fun r5 u9 H locs hw4 hP hD hS => ?_)
    obtain ⟨b2, b3⟩ := u9
    have hP : va_P D vwCl (kX4 cB cI mo mb ma w_zf w_nf w_hf w_cf w_sp b2 w_on w_wt w_ht w_bg w_cn w_al b3 w_ie w_ww w_th w_mm w_bs) H := hP
    have hD : va_D A (kX4 cB cI mo mb ma w_zf w_nf w_hf w_cf w_sp b2 w_on w_wt w_ht w_bg w_cn w_al b3 w_ie w_ww w_th w_mm w_bs) := hD
    have hf := hf.trans (kE3 hw4)
    exact J9 r5 b2 b3 hf.symm H locs ls (lv_sub hl [0, 1] rfl) hP hD hS
  · have hf := hf.trans (kt_eq c1)
    refine lv_ldc (v := 65280) hx hb hown (hws _ mw_526) dX4_far_6 ?_
    refine lv_aload_n hx hb dX4_far_8 rfl (lv_at hl 0 rfl) ?_
    refine va_get (D := D) (ci := 4) (v := .ref ma) (C := RX4) (T := TX4) (N := 18) hx hb hws inlX4 hown hK hP 0 rfl rfl 1 (by decide) (hws _ mw_45) (fun _ h9 => h9) rfl dX4_far_9 ?_
    refine lv_iconst (v := 1) hx hb dX4_far_12 (by decide) ?_
    refine va_iald hx hb hK hP 2 1 rfl rfl (by unfold vp_in; decide) dX4_far_13 ?_
    refine lv_iadd hx hb dX4_far_14 ?_
    refine lv_goto (tgt := 22) hx hb dX4_far_15 (by decide) ?_
    exact J9 ((65280 : Int32) + (w_bs (1 : Int32).toNatClampNeg)) w_pc w_cl hf.symm H locs ls (lv_sub hl [0, 1] rfl) hP hD hS
def fX4_extended (w_zf : Bool) (w_nf : Bool) (w_hf : Bool) (w_cf : Bool) (w_cn : Int32) (w_cl : Int32) (w_mm : Nat → Int32) (w_bs : Nat → Int32) (a1 : Int32) : Bool × Bool × Bool × Bool × Int32 × Int32 × (Nat → Int32) × (Nat → Int32) := (kU1 (((a1 >>> ((3 : Int32) &&& (31 : Int32))) &&& (7 : Int32))) (fun (x1 : Int32) => (kU1 ((a1 &&& (7 : Int32))) (fun (x2 : Int32) => (kU2 (fX4_operand w_cl w_mm w_bs x2) (fun (r5 : Int32) (b3 : Int32) => (kIf (kEq (a1 >>> ((6 : Int32) &&& (31 : Int32))) (0 : Int32)) (kU5 (fX4_turned w_zf w_nf w_hf w_cf x1 r5) (fun (r12 : Int32) (b7 : Bool) (b8 : Bool) (b9 : Bool) (b10 : Bool) => (kU4 (fX4_setOperand w_cn b3 w_mm w_bs x2 r12) (fun (b13 : Int32) (b14 : Int32) (b15 : Nat → Int32) (b16 : Nat → Int32) => (b7, b8, b9, b10, b13, b14, b15, b16))))) (kIf (kEq (a1 >>> ((6 : Int32) &&& (31 : Int32))) (1 : Int32)) (kU1 (((kIf (kEq ((r5 >>> (x1 &&& (31 : Int32))) &&& (1 : Int32)) (0 : Int32)) true false) : Bool)) (fun (z20 : Bool) => (kU4 (fX4_flagsAre w_zf w_nf w_hf w_cf z20 false true w_cf) (fun (b22 : Bool) (b23 : Bool) (b24 : Bool) (b25 : Bool) => (b22, b23, b24, b25, w_cn, b3, w_mm, w_bs))))) (kIf (kEq (a1 >>> ((6 : Int32) &&& (31 : Int32))) (2 : Int32)) (kU4 (fX4_setOperand w_cn b3 w_mm w_bs x2 (r5 &&& (((1 : Int32) <<< (x1 &&& (31 : Int32))) ^^^ (-1 : Int32)))) (fun (b28 : Int32) (b29 : Int32) (b30 : Nat → Int32) (b31 : Nat → Int32) => (w_zf, w_nf, w_hf, w_cf, b28, b29, b30, b31))) (kU4 (fX4_setOperand w_cn b3 w_mm w_bs x2 (r5 ||| ((1 : Int32) <<< (x1 &&& (31 : Int32))))) (fun (b33 : Int32) (b34 : Int32) (b35 : Nat → Int32) (b36 : Nat → Int32) => (w_zf, w_nf, w_hf, w_cf, b33, b34, b35, b36))))))))))))
def rmX4_extended : Room := { frames := 3, cells := 0, slots := 0, locals := 66 }
def wwX4_extended : List Cond := Cond.code yX4_extended cX4_extended 5 none :: wsL_law
theorem hdX4_extended : yX4_extended.cls = RX4 ∧ yX4_extended.cls ≠ "java/lang/invoke/MethodHandle" ∧ yX4_extended.cls ≠ "java/lang/invoke/VarHandle" ∧ (parseMethodDescriptor yX4_extended.desc).map (fun d => d.parameters.length) = some 1 := by decide +kernel
set_option maxHeartbeats 4000000 in
set_option maxRecDepth 100000 in
theorem c_X4_extended (l : Launch) (D : va_G) (cB : ClassId) (cI : ClassId) (mo mb ma sz : Nat) (w_zf : Bool) (w_nf : Bool) (w_hf : Bool) (w_cf : Bool) (w_sp : Int32) (w_pc : Int32) (w_on : Bool) (w_wt : Bool) (w_ht : Bool) (w_bg : Bool) (w_cn : Int32) (w_al : Int32) (w_cl : Int32) (w_ie : Bool) (w_ww : Bool) (w_th : Int32) (w_mm : Nat → Int32) (w_bs : Nat → Int32) (a1 : Int32)  : Met l yX4_extended wwX4_extended rmX4_extended (va_Pc [.ref mo, .int a1] (kp D (kX4 cB cI mo mb ma w_zf w_nf w_hf w_cf w_sp w_pc w_on w_wt w_ht w_bg w_cn w_al w_cl w_ie w_ww w_th w_mm w_bs) [(cB, .byte), (cI, .int)] sz)) (va_Qv (fun (u9 : Bool × Bool × Bool × Bool × Int32 × Int32 × (Nat → Int32) × (Nat → Int32)) => u9 = fX4_extended w_zf w_nf w_hf w_cf w_cn w_cl w_mm w_bs a1) (fun u9 t => kq D (kX4 cB cI mo mb ma (u9.1) (u9.2.1) (u9.2.2.1) (u9.2.2.2.1) w_sp w_pc w_on w_wt w_ht w_bg (u9.2.2.2.2.1) w_al (u9.2.2.2.2.2.1) w_ie w_ww w_th (u9.2.2.2.2.2.2.1) (u9.2.2.2.2.2.2.2)) [(cB, .byte), (cI, .int)] (va_A (kX4 cB cI mo mb ma w_zf w_nf w_hf w_cf w_sp w_pc w_on w_wt w_ht w_bg w_cn w_al w_cl w_ie w_ww w_th w_mm w_bs) sz) t) (va_A (kX4 cB cI mo mb ma w_zf w_nf w_hf w_cf w_sp w_pc w_on w_wt w_ht w_bg w_cn w_al w_cl w_ie w_ww w_th w_mm w_bs) sz)) 0 0 (va_A (kX4 cB cI mo mb ma w_zf w_nf w_hf w_cf w_sp w_pc w_on w_wt w_ht w_bg w_cn w_al w_cl w_ie w_ww w_th w_mm w_bs) sz) := by
  refine Met.ofW (cc := cX4_extended) (maxL := 5) (ret := none) (by decide) rfl ?_
  intro p e s m args below meth c s₁ B hml hv
  obtain ⟨rfl, hsz, hP, hK, hD0, hT⟩ := hv
  have hx := B.exec
  have hb := B.bytes
  have hr := B.returns
  have hts := atoms_spec (ws := wwX4_extended) B.pre
  have hws : ∀ w ∈ wsL_law, w.before _ s = true := fun w h => hts w (List.mem_cons_of_mem _ h)
  have hown : s.vm.findClass RX4 = some m.cls := findClass_of_methodNamed B.named
  have hlocks := B.notSynchronized
  subst hsz
  have hD := hD0.self (sz := s.heap.size)
  generalize hAe : va_A (kX4 cB cI mo mb ma w_zf w_nf w_hf w_cf w_sp w_pc w_on w_wt w_ht w_bg w_cn w_al w_cl w_ie w_ww w_th w_mm w_bs) s.heap.size = A at hD hT ⊢
  have hA : ∀ q : Nat, s.heap.size ≤ q → A q := fun q h => by rw [← hAe]; exact Or.inr h
  have hS : va_S A s.heap s.heap [] := va_S.rf
  have hl := lv_entry ([.ref mo, .int a1]) (n := 5) (Nat.le_of_ble_eq_true rfl)
  rw [lg_entry_eq]
  generalize (lg_sl ([.ref mo, .int a1]) ++ List.replicate (5 - (lg_sl ([.ref mo, .int a1])).length) Slot.unset).toArray = ls at hl ⊢
  have hl : lv_has ls 5 [(0, .ref mo), (1, .int a1)] := hl
  generalize hQ : MQ _ _ _ _ _ _ _ = Q
  obtain ⟨H, hHe⟩ : ∃ H : Heap, H = s.heap := ⟨_, rfl⟩
  obtain ⟨locs, hle⟩ : ∃ L : List Loc, L = [] := ⟨_, rfl⟩
  have hP : va_P D vwCl (kX4 cB cI mo mb ma w_zf w_nf w_hf w_cf w_sp w_pc w_on w_wt w_ht w_bg w_cn w_al w_cl w_ie w_ww w_th w_mm w_bs) H := by rw [hHe]; exact hP
  have hS : va_S A s.heap H locs := by rw [hHe, hle]; exact hS
  refine kw_start hHe.symm hle.symm ?_
  have hf : fX4_extended w_zf w_nf w_hf w_cf w_cn w_cl w_mm w_bs a1 = fX4_extended w_zf w_nf w_hf w_cf w_cn w_cl w_mm w_bs a1 := rfl
  refine lv_iload_n hx hb dX4_extended_0 rfl (lv_at hl 1 rfl) ?_
  refine lv_iconst (v := 3) hx hb dX4_extended_1 (by decide) ?_
  refine lv_ishr hx hb dX4_extended_2 ?_
  refine lv_bipush (v := 7) hx hb dX4_extended_3 (by decide) ?_
  refine lv_iand hx hb dX4_extended_5 ?_
  refine lv_topi (fun x1 ex1 => ?_)
  have hf := hf.trans (kE1 ex1)
  refine lv_istore_n (lv' := [(2, .int x1), (0, .ref mo), (1, .int a1)]) hx hb dX4_extended_6 rfl hl (by decide) rfl (fun ls hl => ?_)
  refine lv_iload_n hx hb dX4_extended_7 rfl (lv_at hl 2 rfl) ?_
  refine lv_bipush (v := 7) hx hb dX4_extended_8 (by decide) ?_
  refine lv_iand hx hb dX4_extended_10 ?_
  refine lv_topi (fun x2 ex2 => ?_)
  have hf := hf.trans (kE1 ex2)
  refine lv_istore_n (lv' := [(3, .int x2), (2, .int x1), (0, .ref mo), (1, .int a1)]) hx hb dX4_extended_11 rfl hl (by decide) rfl (fun ls hl => ?_)
  refine lv_aload_n hx hb dX4_extended_12 rfl (lv_at hl 2 rfl) ?_
  refine lv_iload_n hx hb dX4_extended_13 rfl (lv_at hl 0 rfl) ?_
  refine kc_Vi (wr := []) (As := [.int x2]) (rest := []) (fun u9 => (kX4 cB cI mo mb ma w_zf w_nf w_hf w_cf w_sp w_pc w_on w_wt w_ht w_bg w_cn w_al u9 w_ie w_ww w_th w_mm w_bs)) ⟨hx, hb, hml, hown, hws⟩ hK hP hD hS hA hT (c_X4_operand l D cB cI mo mb ma H.size w_zf w_nf w_hf w_cf w_sp w_pc w_on w_wt w_ht w_bg w_cn w_al w_cl w_ie w_ww w_th w_mm w_bs x2 (by rw [ex2]; exact (ki_7_8 _))) (cwV 1 hws (gw_V mw_466 mw_467 mw_468 mw_5 mw_469) rfl rfl rfl hdX4_operand ⟨Nat.le_of_ble_eq_true rfl, Nat.le_of_ble_eq_true rfl⟩) [0, 1, 2] [] [0, 1] [0, 1, 2] rfl rfl rfl rfl (by decide) rfl (fun _ => rfl) rfl 0 rfl rfl rfl rfl hl.1 rfl (Nat.le_of_ble_eq_true rfl) dX4_extended_14 ⟨Nat.zero_le _, Nat.zero_le _⟩ (fun r5 b3 H locs hw4 hP hD hS => ?_)
  have hP : va_P D vwCl (kX4 cB cI mo mb ma w_zf w_nf w_hf w_cf w_sp w_pc w_on w_wt w_ht w_bg w_cn w_al b3 w_ie w_ww w_th w_mm w_bs) H := hP
  have hD : va_D A (kX4 cB cI mo mb ma w_zf w_nf w_hf w_cf w_sp w_pc w_on w_wt w_ht w_bg w_cn w_al b3 w_ie w_ww w_th w_mm w_bs) := hD
  have hf := hf.trans (kE2 hw4)
  refine lv_istore (lv' := [(4, .int r5), (3, .int x2), (2, .int x1), (0, .ref mo), (1, .int a1)]) hx hb dX4_extended_17 hl (by decide) rfl (fun ls hl => ?_)
  refine lv_iload_n hx hb dX4_extended_19 rfl (lv_at hl 4 rfl) ?_
  refine lv_bipush (v := 6) hx hb dX4_extended_20 (by decide) ?_
  refine lv_ishr hx hb dX4_extended_22 ?_
  by_cases c6 : (a1 >>> ((6 : Int32) &&& (31 : Int32))) = (0 : Int32)
  · have hf := hf.trans (kt_eq c6)
    refine lv_tableIn (off := 25) (tgt := 48) hx hb dX4_extended_23 (by rw [c6]; decide) (by rw [c6]; decide) (by rw [c6]; decide) (by decide) ?_
    refine lv_aload_n hx hb dX4_extended_48 rfl (lv_at hl 3 rfl) ?_
    refine lv_iload_n hx hb dX4_extended_49 rfl (lv_at hl 1 rfl) ?_
    refine lv_aload_n hx hb dX4_extended_50 rfl (lv_at hl 3 rfl) ?_
    refine lv_iload_n hx hb dX4_extended_51 rfl (lv_at hl 2 rfl) ?_
    refine lv_iload hx hb dX4_extended_52 (lv_at hl 0 rfl) ?_
    refine kc_Vi (wr := []) (As := [.int x1, .int r5]) (rest := [.int x2, .ref mo]) (fun u9 => (kX4 cB cI mo mb ma (u9.1) (u9.2.1) (u9.2.2.1) (u9.2.2.2) w_sp w_pc w_on w_wt w_ht w_bg w_cn w_al b3 w_ie w_ww w_th w_mm w_bs)) ⟨hx, hb, hml, hown, hws⟩ hK hP hD hS hA hT (c_X4_turned l D cB cI mo mb ma H.size w_zf w_nf w_hf w_cf w_sp w_pc w_on w_wt w_ht w_bg w_cn w_al b3 w_ie w_ww w_th w_mm w_bs x1 r5) (cwV 2 hws (gw_V mw_486 mw_487 mw_488 mw_5 mw_489) rfl rfl rfl hdX4_turned ⟨Nat.le_of_ble_eq_true rfl, Nat.le_of_ble_eq_true rfl⟩) [0, 1, 2] [] [0, 1] [0, 1, 2] rfl rfl rfl rfl (by decide) rfl (fun _ => rfl) rfl 0 rfl rfl rfl rfl hl.1 rfl (Nat.le_of_ble_eq_true rfl) dX4_extended_54 ⟨Nat.zero_le _, Nat.zero_le _⟩ (fun r12 u9 H locs hw11 hP hD hS => ?_)
    obtain ⟨b7, b8, b9, b10⟩ := u9
    have hP : va_P D vwCl (kX4 cB cI mo mb ma b7 b8 b9 b10 w_sp w_pc w_on w_wt w_ht w_bg w_cn w_al b3 w_ie w_ww w_th w_mm w_bs) H := hP
    have hD : va_D A (kX4 cB cI mo mb ma b7 b8 b9 b10 w_sp w_pc w_on w_wt w_ht w_bg w_cn w_al b3 w_ie w_ww w_th w_mm w_bs) := hD
    have hf := hf.trans (kE5 hw11)
    refine kc_Vv (wr := []) (As := [.int x2, .int r12]) (rest := []) (fun u9 => (kX4 cB cI mo mb ma b7 b8 b9 b10 w_sp w_pc w_on w_wt w_ht w_bg (u9.1) w_al (u9.2.1) w_ie w_ww w_th (u9.2.2.1) (u9.2.2.2))) ⟨hx, hb, hml, hown, hws⟩ hK hP hD hS hA hT (c_X4_setOperand l D cB cI mo mb ma H.size b7 b8 b9 b10 w_sp w_pc w_on w_wt w_ht w_bg w_cn w_al b3 w_ie w_ww w_th w_mm w_bs x2 r12 (by rw [ex2]; exact (ki_7_8 _))) (cwV 2 hws (gw_V mw_474 mw_475 mw_476 mw_5 mw_477) rfl rfl rfl hdX4_setOperand ⟨Nat.le_of_ble_eq_true rfl, Nat.le_of_ble_eq_true rfl⟩) [0, 1, 2] [] [0, 1] [0, 1, 2] rfl rfl rfl rfl (by decide) rfl (fun _ => rfl) rfl 0 rfl rfl rfl rfl hl.1 rfl (Nat.le_of_ble_eq_true rfl) dX4_extended_57 ⟨Nat.zero_le _, Nat.zero_le _⟩ (fun u9 H locs hw17 hP hD hS => ?_)
    obtain ⟨b13, b14, b15, b16⟩ := u9
    have hP : va_P D vwCl (kX4 cB cI mo mb ma b7 b8 b9 b10 w_sp w_pc w_on w_wt w_ht w_bg b13 w_al b14 w_ie w_ww w_th b15 b16) H := hP
    have hD : va_D A (kX4 cB cI mo mb ma b7 b8 b9 b10 w_sp w_pc w_on w_wt w_ht w_bg b13 w_al b14 w_ie w_ww w_th b15 b16) := hD
    have hf := hf.trans (kE4 hw17)
    refine lv_goto (tgt := 117) hx hb dX4_extended_60 (by decide) ?_
    rw [← hQ]
    exact W.vret hx hb hr (fun t ht hW => ⟨⟨(b7, b8, b9, b10, b13, b14, b15, b16), rfl, hf.symm, by rw [ht]; exact hP, va_K.moved hW.alike hK, hD⟩, hS.F ht⟩) hS.2.2 dX4_extended_117
  · have hf := hf.trans (kf_eq c6)
    by_cases c18 : (a1 >>> ((6 : Int32) &&& (31 : Int32))) = (1 : Int32)
    · have hf := hf.trans (kt_eq c18)
      refine lv_tableIn (off := 40) (tgt := 63) hx hb dX4_extended_23 (by rw [c18]; decide) (by rw [c18]; decide) (by rw [c18]; decide) (by decide) ?_
      refine lv_aload_n hx hb dX4_extended_63 rfl (lv_at hl 3 rfl) ?_
      refine lv_iload hx hb dX4_extended_64 (lv_at hl 0 rfl) ?_
      refine lv_iload_n hx hb dX4_extended_66 rfl (lv_at hl 2 rfl) ?_
      refine lv_ishr hx hb dX4_extended_67 ?_
      refine lv_iconst (v := 1) hx hb dX4_extended_68 (by decide) ?_
      refine lv_iand hx hb dX4_extended_69 ?_
      obtain ⟨TJ21, hTJ21⟩ : ∃ T9 : Bool, T9 = (kIf (kEq ((r5 >>> (x1 &&& (31 : Int32))) &&& (1 : Int32)) (0 : Int32)) true false) := ⟨_, rfl⟩
      have J21 : ∀ (z20 : Bool), z20 = TJ21 → ∀ (H : Heap) (locs : List Loc) (ls : Array Slot), lv_has ls 5 [(4, .int r5), (3, .int x2), (2, .int x1), (0, .ref mo), (1, .int a1)] → va_P D vwCl (kX4 cB cI mo mb ma w_zf w_nf w_hf w_cf w_sp w_pc w_on w_wt w_ht w_bg w_cn w_al b3 w_ie w_ww w_th w_mm w_bs) H → va_D A (kX4 cB cI mo mb ma w_zf w_nf w_hf w_cf w_sp w_pc w_on w_wt w_ht w_bg w_cn w_al b3 w_ie w_ww w_th w_mm w_bs) → va_S A s.heap H locs → W p l e (headSpec wwX4_extended rmX4_extended).room s m ([.ref mo, .int a1] : List Value).toArray below meth c H locs 0 0 Q (F0 m 78 ls [.int (bI z20), .ref mo]) := by
        intro z20 eJ21 H locs ls hl hP hD hS
        have hf := hf.trans (kE1 (eJ21.trans hTJ21))
        refine lv_iconst (v := 0) hx hb dX4_extended_78 (by decide) ?_
        refine lv_iconst (v := 1) hx hb dX4_extended_79 (by decide) ?_
        refine lv_aload_n hx hb dX4_extended_80 rfl (lv_at hl 3 rfl) ?_
        refine va_get (D := D) (ci := 4) (v := .int (bI w_cf)) (C := RX4) (T := TX4) (N := 18) hx hb hws inlX4 hown hK hP 0 rfl rfl 5 (by decide) (hws _ mw_431) (fun _ h9 => h9) rfl dX4_extended_81 ?_
        refine kc_Vv (wr := []) (As := [.int (bI z20), .int (bI false), .int (bI true), .int (bI w_cf)]) (rest := []) (fun u9 => (kX4 cB cI mo mb ma (u9.1) (u9.2.1) (u9.2.2.1) (u9.2.2.2) w_sp w_pc w_on w_wt w_ht w_bg w_cn w_al b3 w_ie w_ww w_th w_mm w_bs)) ⟨hx, hb, hml, hown, hws⟩ hK hP hD hS hA hT (c_X4_flagsAre l D cB cI mo mb ma H.size w_zf w_nf w_hf w_cf w_sp w_pc w_on w_wt w_ht w_bg w_cn w_al b3 w_ie w_ww w_th w_mm w_bs z20 false true w_cf) (cwV 4 hws (gw_V mw_448 mw_449 mw_450 mw_5 mw_451) rfl rfl rfl hdX4_flagsAre ⟨Nat.le_of_ble_eq_true rfl, Nat.le_of_ble_eq_true rfl⟩) [0, 1, 2] [] [0, 1] [0, 1, 2] rfl rfl rfl rfl (by decide) rfl (fun _ => rfl) rfl 0 rfl rfl rfl rfl hl.1 rfl (Nat.le_of_ble_eq_true rfl) dX4_extended_84 ⟨Nat.zero_le _, Nat.zero_le _⟩ (fun u9 H locs hw26 hP hD hS => ?_)
        obtain ⟨b22, b23, b24, b25⟩ := u9
        have hP : va_P D vwCl (kX4 cB cI mo mb ma b22 b23 b24 b25 w_sp w_pc w_on w_wt w_ht w_bg w_cn w_al b3 w_ie w_ww w_th w_mm w_bs) H := hP
        have hD : va_D A (kX4 cB cI mo mb ma b22 b23 b24 b25 w_sp w_pc w_on w_wt w_ht w_bg w_cn w_al b3 w_ie w_ww w_th w_mm w_bs) := hD
        have hf := hf.trans (kE4 hw26)
        refine lv_goto (tgt := 117) hx hb dX4_extended_87 (by decide) ?_
        rw [← hQ]
        exact W.vret hx hb hr (fun t ht hW => ⟨⟨(b22, b23, b24, b25, w_cn, b3, w_mm, w_bs), rfl, hf.symm, by rw [ht]; exact hP, va_K.moved hW.alike hK, hD⟩, hS.F ht⟩) hS.2.2 dX4_extended_117
      have hf := hTJ21
      refine lv_if_ne (tgt := 77) hx hb dX4_extended_70 (by decide) (fun c19 => ?_) (fun c19 => ?_)
      · have hf := hf.trans (kf_eq c19)
        refine lv_iconst (v := 0) hx hb dX4_extended_77 (by decide) ?_
        exact J21 false hf.symm H locs ls (lv_sub hl [0, 1, 2, 3, 4] rfl) hP hD hS
      · have hf := hf.trans (kt_eq c19)
        refine lv_iconst (v := 1) hx hb dX4_extended_73 (by decide) ?_
        refine lv_goto (tgt := 78) hx hb dX4_extended_74 (by decide) ?_
        exact J21 true hf.symm H locs ls (lv_sub hl [0, 1, 2, 3, 4] rfl) hP hD hS
    · have hf := hf.trans (kf_eq c18)
      by_cases c27 : (a1 >>> ((6 : Int32) &&& (31 : Int32))) = (2 : Int32)
      · have hf := hf.trans (kt_eq c27)
        refine lv_tableIn (off := 67) (tgt := 90) hx hb dX4_extended_23 (by rw [c27]; decide) (by rw [c27]; decide) (by rw [c27]; decide) (by decide) ?_
        refine lv_aload_n hx hb dX4_extended_90 rfl (lv_at hl 3 rfl) ?_
        refine lv_iload_n hx hb dX4_extended_91 rfl (lv_at hl 1 rfl) ?_
        refine lv_iload hx hb dX4_extended_92 (lv_at hl 0 rfl) ?_
        refine lv_iconst (v := 1) hx hb dX4_extended_94 (by decide) ?_
        refine lv_iload_n hx hb dX4_extended_95 rfl (lv_at hl 2 rfl) ?_
        refine lv_ishl hx hb dX4_extended_96 ?_
        refine lv_iconst (v := -1) hx hb dX4_extended_97 (by decide) ?_
        refine lv_ixor hx hb dX4_extended_98 ?_
        refine lv_iand hx hb dX4_extended_99 ?_
        refine kc_Vv (wr := []) (As := [.int x2, .int (r5 &&& (((1 : Int32) <<< (x1 &&& (31 : Int32))) ^^^ (-1 : Int32)))]) (rest := []) (fun u9 => (kX4 cB cI mo mb ma w_zf w_nf w_hf w_cf w_sp w_pc w_on w_wt w_ht w_bg (u9.1) w_al (u9.2.1) w_ie w_ww w_th (u9.2.2.1) (u9.2.2.2))) ⟨hx, hb, hml, hown, hws⟩ hK hP hD hS hA hT (c_X4_setOperand l D cB cI mo mb ma H.size w_zf w_nf w_hf w_cf w_sp w_pc w_on w_wt w_ht w_bg w_cn w_al b3 w_ie w_ww w_th w_mm w_bs x2 (r5 &&& (((1 : Int32) <<< (x1 &&& (31 : Int32))) ^^^ (-1 : Int32))) (by rw [ex2]; exact (ki_7_8 _))) (cwV 2 hws (gw_V mw_474 mw_475 mw_476 mw_5 mw_477) rfl rfl rfl hdX4_setOperand ⟨Nat.le_of_ble_eq_true rfl, Nat.le_of_ble_eq_true rfl⟩) [0, 1, 2] [] [0, 1] [0, 1, 2] rfl rfl rfl rfl (by decide) rfl (fun _ => rfl) rfl 0 rfl rfl rfl rfl hl.1 rfl (Nat.le_of_ble_eq_true rfl) dX4_extended_100 ⟨Nat.zero_le _, Nat.zero_le _⟩ (fun u9 H locs hw32 hP hD hS => ?_)
        obtain ⟨b28, b29, b30, b31⟩ := u9
        have hP : va_P D vwCl (kX4 cB cI mo mb ma w_zf w_nf w_hf w_cf w_sp w_pc w_on w_wt w_ht w_bg b28 w_al b29 w_ie w_ww w_th b30 b31) H := hP
        have hD : va_D A (kX4 cB cI mo mb ma w_zf w_nf w_hf w_cf w_sp w_pc w_on w_wt w_ht w_bg b28 w_al b29 w_ie w_ww w_th b30 b31) := hD
        have hf := hf.trans (kE4 hw32)
        refine lv_goto (tgt := 117) hx hb dX4_extended_103 (by decide) ?_
        rw [← hQ]
        exact W.vret hx hb hr (fun t ht hW => ⟨⟨(w_zf, w_nf, w_hf, w_cf, b28, b29, b30, b31), rfl, hf.symm, by rw [ht]; exact hP, va_K.moved hW.alike hK, hD⟩, hS.F ht⟩) hS.2.2 dX4_extended_117
      · have hf := hf.trans (kf_eq c27)
        refine lv_tableOut (tgt := 106) hx hb dX4_extended_23 (by have n0 := lv_neT c6 (a := 0) rfl; have n1 := lv_neT c18 (a := 1) rfl; have n2 := lv_neT c27 (a := 2) rfl; omega) (by decide) ?_
        refine lv_aload_n hx hb dX4_extended_106 rfl (lv_at hl 3 rfl) ?_
        refine lv_iload_n hx hb dX4_extended_107 rfl (lv_at hl 1 rfl) ?_
        refine lv_iload hx hb dX4_extended_108 (lv_at hl 0 rfl) ?_
        refine lv_iconst (v := 1) hx hb dX4_extended_110 (by decide) ?_
        refine lv_iload_n hx hb dX4_extended_111 rfl (lv_at hl 2 rfl) ?_
        refine lv_ishl hx hb dX4_extended_112 ?_
        refine lv_ior hx hb dX4_extended_113 ?_
        refine kc_Vv (wr := []) (As := [.int x2, .int (r5 ||| ((1 : Int32) <<< (x1 &&& (31 : Int32))))]) (rest := []) (fun u9 => (kX4 cB cI mo mb ma w_zf w_nf w_hf w_cf w_sp w_pc w_on w_wt w_ht w_bg (u9.1) w_al (u9.2.1) w_ie w_ww w_th (u9.2.2.1) (u9.2.2.2))) ⟨hx, hb, hml, hown, hws⟩ hK hP hD hS hA hT (c_X4_setOperand l D cB cI mo mb ma H.size w_zf w_nf w_hf w_cf w_sp w_pc w_on w_wt w_ht w_bg w_cn w_al b3 w_ie w_ww w_th w_mm w_bs x2 (r5 ||| ((1 : Int32) <<< (x1 &&& (31 : Int32)))) (by rw [ex2]; exact (ki_7_8 _))) (cwV 2 hws (gw_V mw_474 mw_475 mw_476 mw_5 mw_477) rfl rfl rfl hdX4_setOperand ⟨Nat.le_of_ble_eq_true rfl, Nat.le_of_ble_eq_true rfl⟩) [0, 1, 2] [] [0, 1] [0, 1, 2] rfl rfl rfl rfl (by decide) rfl (fun _ => rfl) rfl 0 rfl rfl rfl rfl hl.1 rfl (Nat.le_of_ble_eq_true rfl) dX4_extended_114 ⟨Nat.zero_le _, Nat.zero_le _⟩ (fun u9 H locs hw37 hP hD hS => ?_)
        obtain ⟨b33, b34, b35, b36⟩ := u9
        have hP : va_P D vwCl (kX4 cB cI mo mb ma w_zf w_nf w_hf w_cf w_sp w_pc w_on w_wt w_ht w_bg b33 w_al b34 w_ie w_ww w_th b35 b36) H := hP
        have hD : va_D A (kX4 cB cI mo mb ma w_zf w_nf w_hf w_cf w_sp w_pc w_on w_wt w_ht w_bg b33 w_al b34 w_ie w_ww w_th b35 b36) := hD
        have hf := hf.trans (kE4 hw37)
        rw [← hQ]
        exact W.vret hx hb hr (fun t ht hW => ⟨⟨(w_zf, w_nf, w_hf, w_cf, b33, b34, b35, b36), rfl, hf.symm, by rw [ht]; exact hP, va_K.moved hW.alike hK, hD⟩, hS.F ht⟩) hS.2.2 dX4_extended_117
def fX4_others (w_zf : Bool) (w_nf : Bool) (w_hf : Bool) (w_cf : Bool) (w_pc : Int32) (w_on : Bool) (w_wt : Bool) (w_cn : Int32) (w_cl : Int32) (w_ie : Bool) (w_mm : Nat → Int32) (w_bs : Nat → Int32) (a1 : Int32) : Bool × Bool × Bool × Bool × Int32 × Bool × Bool × Int32 × Int32 × Bool × (Nat → Int32) × (Nat → Int32) := (kIf (kEq a1 (0 : Int32)) (kU1 ((w_cl + (1 : Int32))) (fun (x20 : Int32) => (kU3 (fX4_fetchWord w_pc x20 w_mm) (fun (r24 : Int32) (b21 : Int32) (b22 : Int32) => (w_zf, w_nf, w_hf, w_cf, r24, w_on, w_wt, w_cn, b22, w_ie, w_mm, w_bs))))) (kIf (kEq a1 (1 : Int32)) (kU3 (fX4_fetch w_pc w_cl w_mm) (fun (r10 : Int32) (b7 : Int32) (b8 : Int32) => (kU8 (fX4_extended w_zf w_nf w_hf w_cf w_cn b8 w_mm w_bs r10) (fun (b11 : Bool) (b12 : Bool) (b13 : Bool) (b14 : Bool) (b15 : Int32) (b16 : Int32) (b17 : Nat → Int32) (b18 : Nat → Int32) => (b11, b12, b13, b14, b7, w_on, w_wt, b15, b16, w_ie, b17, b18))))) (kIf (kEq a1 (6 : Int32)) (w_zf, w_nf, w_hf, w_cf, w_pc, false, false, w_cn, w_cl, w_ie, w_mm, w_bs) (kU1 (((kIf (kEq (bI w_on) (0 : Int32)) true false) : Bool)) (fun (z5 : Bool) => (w_zf, w_nf, w_hf, w_cf, w_pc, w_on, w_wt, w_cn, w_cl, z5, w_mm, w_bs))))))
def rmX4_others : Room := { frames := 4, cells := 0, slots := 0, locals := 90 }
def wwX4_others : List Cond := Cond.code yX4_others cX4_others 2 none :: wsL_law
theorem hdX4_others : yX4_others.cls = RX4 ∧ yX4_others.cls ≠ "java/lang/invoke/MethodHandle" ∧ yX4_others.cls ≠ "java/lang/invoke/VarHandle" ∧ (parseMethodDescriptor yX4_others.desc).map (fun d => d.parameters.length) = some 1 := by decide +kernel
set_option maxHeartbeats 4000000 in
set_option maxRecDepth 100000 in
theorem c_X4_others (l : Launch) (D : va_G) (cB : ClassId) (cI : ClassId) (mo mb ma sz : Nat) (w_zf : Bool) (w_nf : Bool) (w_hf : Bool) (w_cf : Bool) (w_sp : Int32) (w_pc : Int32) (w_on : Bool) (w_wt : Bool) (w_ht : Bool) (w_bg : Bool) (w_cn : Int32) (w_al : Int32) (w_cl : Int32) (w_ie : Bool) (w_ww : Bool) (w_th : Int32) (w_mm : Nat → Int32) (w_bs : Nat → Int32) (a1 : Int32)  : Met l yX4_others wwX4_others rmX4_others (va_Pc [.ref mo, .int a1] (kp D (kX4 cB cI mo mb ma w_zf w_nf w_hf w_cf w_sp w_pc w_on w_wt w_ht w_bg w_cn w_al w_cl w_ie w_ww w_th w_mm w_bs) [(cB, .byte), (cI, .int)] sz)) (va_Qv (fun (u9 : Bool × Bool × Bool × Bool × Int32 × Bool × Bool × Int32 × Int32 × Bool × (Nat → Int32) × (Nat → Int32)) => u9 = fX4_others w_zf w_nf w_hf w_cf w_pc w_on w_wt w_cn w_cl w_ie w_mm w_bs a1) (fun u9 t => kq D (kX4 cB cI mo mb ma (u9.1) (u9.2.1) (u9.2.2.1) (u9.2.2.2.1) w_sp (u9.2.2.2.2.1) (u9.2.2.2.2.2.1) (u9.2.2.2.2.2.2.1) w_ht w_bg (u9.2.2.2.2.2.2.2.1) w_al (u9.2.2.2.2.2.2.2.2.1) (u9.2.2.2.2.2.2.2.2.2.1) w_ww w_th (u9.2.2.2.2.2.2.2.2.2.2.1) (u9.2.2.2.2.2.2.2.2.2.2.2)) [(cB, .byte), (cI, .int)] (va_A (kX4 cB cI mo mb ma w_zf w_nf w_hf w_cf w_sp w_pc w_on w_wt w_ht w_bg w_cn w_al w_cl w_ie w_ww w_th w_mm w_bs) sz) t) (va_A (kX4 cB cI mo mb ma w_zf w_nf w_hf w_cf w_sp w_pc w_on w_wt w_ht w_bg w_cn w_al w_cl w_ie w_ww w_th w_mm w_bs) sz)) 0 0 (va_A (kX4 cB cI mo mb ma w_zf w_nf w_hf w_cf w_sp w_pc w_on w_wt w_ht w_bg w_cn w_al w_cl w_ie w_ww w_th w_mm w_bs) sz) := by
  refine Met.ofW (cc := cX4_others) (maxL := 2) (ret := none) (by decide) rfl ?_
  intro p e s m args below meth c s₁ B hml hv
  obtain ⟨rfl, hsz, hP, hK, hD0, hT⟩ := hv
  have hx := B.exec
  have hb := B.bytes
  have hr := B.returns
  have hts := atoms_spec (ws := wwX4_others) B.pre
  have hws : ∀ w ∈ wsL_law, w.before _ s = true := fun w h => hts w (List.mem_cons_of_mem _ h)
  have hown : s.vm.findClass RX4 = some m.cls := findClass_of_methodNamed B.named
  have hlocks := B.notSynchronized
  subst hsz
  have hD := hD0.self (sz := s.heap.size)
  generalize hAe : va_A (kX4 cB cI mo mb ma w_zf w_nf w_hf w_cf w_sp w_pc w_on w_wt w_ht w_bg w_cn w_al w_cl w_ie w_ww w_th w_mm w_bs) s.heap.size = A at hD hT ⊢
  have hA : ∀ q : Nat, s.heap.size ≤ q → A q := fun q h => by rw [← hAe]; exact Or.inr h
  have hS : va_S A s.heap s.heap [] := va_S.rf
  have hl := lv_entry ([.ref mo, .int a1]) (n := 2) (Nat.le_of_ble_eq_true rfl)
  rw [lg_entry_eq]
  generalize (lg_sl ([.ref mo, .int a1]) ++ List.replicate (2 - (lg_sl ([.ref mo, .int a1])).length) Slot.unset).toArray = ls at hl ⊢
  have hl : lv_has ls 2 [(0, .ref mo), (1, .int a1)] := hl
  generalize hQ : MQ _ _ _ _ _ _ _ = Q
  obtain ⟨H, hHe⟩ : ∃ H : Heap, H = s.heap := ⟨_, rfl⟩
  obtain ⟨locs, hle⟩ : ∃ L : List Loc, L = [] := ⟨_, rfl⟩
  have hP : va_P D vwCl (kX4 cB cI mo mb ma w_zf w_nf w_hf w_cf w_sp w_pc w_on w_wt w_ht w_bg w_cn w_al w_cl w_ie w_ww w_th w_mm w_bs) H := by rw [hHe]; exact hP
  have hS : va_S A s.heap H locs := by rw [hHe, hle]; exact hS
  refine kw_start hHe.symm hle.symm ?_
  have hf : fX4_others w_zf w_nf w_hf w_cf w_pc w_on w_wt w_cn w_cl w_ie w_mm w_bs a1 = fX4_others w_zf w_nf w_hf w_cf w_pc w_on w_wt w_cn w_cl w_ie w_mm w_bs a1 := rfl
  refine lv_iload_n hx hb dX4_others_0 rfl (lv_at hl 1 rfl) ?_
  refine lv_if_ne (tgt := 25) hx hb dX4_others_1 (by decide) (fun c1 => ?_) (fun c1 => ?_)
  · have hf := hf.trans (kf_eq c1)
    refine lv_iload_n hx hb dX4_others_25 rfl (lv_at hl 1 rfl) ?_
    refine lv_iconst (v := 1) hx hb dX4_others_26 (by decide) ?_
    refine lv_icmp_ne (tgt := 41) hx hb dX4_others_27 (by decide) (fun c2 => ?_) (fun c2 => ?_)
    · have hf := hf.trans (kf_eq c2)
      refine lv_iload_n hx hb dX4_others_41 rfl (lv_at hl 1 rfl) ?_
      refine lv_bipush (v := 6) hx hb dX4_others_42 (by decide) ?_
      refine lv_icmp_ne (tgt := 60) hx hb dX4_others_44 (by decide) (fun c3 => ?_) (fun c3 => ?_)
      · have hf := hf.trans (kf_eq c3)
        refine lv_aload_n hx hb dX4_others_60 rfl (lv_at hl 0 rfl) ?_
        refine lv_aload_n hx hb dX4_others_61 rfl (lv_at hl 0 rfl) ?_
        refine va_get (D := D) (ci := 4) (v := .int (bI w_on)) (C := RX4) (T := TX4) (N := 18) hx hb hws inlX4 hown hK hP 0 rfl rfl 8 (by decide) (hws _ mw_368) (fun _ h9 => h9) rfl dX4_others_62 ?_
        obtain ⟨TJ6, hTJ6⟩ : ∃ T9 : Bool, T9 = (kIf (kEq (bI w_on) (0 : Int32)) true false) := ⟨_, rfl⟩
        have J6 : ∀ (z5 : Bool), z5 = TJ6 → ∀ (H : Heap) (locs : List Loc) (ls : Array Slot), lv_has ls 2 [(0, .ref mo), (1, .int a1)] → va_P D vwCl (kX4 cB cI mo mb ma w_zf w_nf w_hf w_cf w_sp w_pc w_on w_wt w_ht w_bg w_cn w_al w_cl w_ie w_ww w_th w_mm w_bs) H → va_D A (kX4 cB cI mo mb ma w_zf w_nf w_hf w_cf w_sp w_pc w_on w_wt w_ht w_bg w_cn w_al w_cl w_ie w_ww w_th w_mm w_bs) → va_S A s.heap H locs → W p l e (headSpec wwX4_others rmX4_others).room s m ([.ref mo, .int a1] : List Value).toArray below meth c H locs 0 0 Q (F0 m 73 ls [.int (bI z5), .ref mo]) := by
          intro z5 eJ6 H locs ls hl hP hD hS
          have hf := hf.trans (kE1 (eJ6.trans hTJ6))
          refine va_put (D := D) (ci := 4) (v := .int (bI z5)) (ty := .boolean) (C := RX4) (T := TX4) (N := 18) hx hb hws inlX4 tyX4 tyX4_ok nmX4 hown hK hP hD hS 0 rfl rfl 15 (by decide) (hws _ mw_373) (fun _ h9 => h9) rfl (tyX4_ok 15 (by decide)) (bI_nar _) (bI_fit _) (Nat.le_of_ble_eq_true rfl) dX4_others_73 (fun H locs hP hD hS => ?_)
          have hP : va_P D vwCl (kX4 cB cI mo mb ma w_zf w_nf w_hf w_cf w_sp w_pc w_on w_wt w_ht w_bg w_cn w_al w_cl z5 w_ww w_th w_mm w_bs) H := hP
          have hD : va_D A (kX4 cB cI mo mb ma w_zf w_nf w_hf w_cf w_sp w_pc w_on w_wt w_ht w_bg w_cn w_al w_cl z5 w_ww w_th w_mm w_bs) := hD
          rw [← hQ]
          exact W.vret hx hb hr (fun t ht hW => ⟨⟨(w_zf, w_nf, w_hf, w_cf, w_pc, w_on, w_wt, w_cn, w_cl, z5, w_mm, w_bs), rfl, hf.symm, by rw [ht]; exact hP, va_K.moved hW.alike hK, hD⟩, hS.F ht⟩) hS.2.2 dX4_others_76
        have hf := hTJ6
        refine lv_if_ne (tgt := 72) hx hb dX4_others_65 (by decide) (fun c4 => ?_) (fun c4 => ?_)
        · have hf := hf.trans (kf_eq c4)
          refine lv_iconst (v := 0) hx hb dX4_others_72 (by decide) ?_
          exact J6 false hf.symm H locs ls (lv_sub hl [0, 1] rfl) hP hD hS
        · have hf := hf.trans (kt_eq c4)
          refine lv_iconst (v := 1) hx hb dX4_others_68 (by decide) ?_
          refine lv_goto (tgt := 73) hx hb dX4_others_69 (by decide) ?_
          exact J6 true hf.symm H locs ls (lv_sub hl [0, 1] rfl) hP hD hS
      · have hf := hf.trans (kt_eq c3)
        refine lv_aload_n hx hb dX4_others_47 rfl (lv_at hl 0 rfl) ?_
        refine lv_iconst (v := 0) hx hb dX4_others_48 (by decide) ?_
        refine va_put (D := D) (ci := 4) (v := .int (bI false)) (ty := .boolean) (C := RX4) (T := TX4) (N := 18) hx hb hws inlX4 tyX4 tyX4_ok nmX4 hown hK hP hD hS 0 rfl rfl 8 (by decide) (hws _ mw_368) (fun _ h9 => h9) rfl (tyX4_ok 8 (by decide)) (bI_nar _) (bI_fit _) (Nat.le_of_ble_eq_true rfl) dX4_others_49 (fun H locs hP hD hS => ?_)
        have hP : va_P D vwCl (kX4 cB cI mo mb ma w_zf w_nf w_hf w_cf w_sp w_pc false w_wt w_ht w_bg w_cn w_al w_cl w_ie w_ww w_th w_mm w_bs) H := hP
        have hD : va_D A (kX4 cB cI mo mb ma w_zf w_nf w_hf w_cf w_sp w_pc false w_wt w_ht w_bg w_cn w_al w_cl w_ie w_ww w_th w_mm w_bs) := hD
        refine lv_aload_n hx hb dX4_others_52 rfl (lv_at hl 0 rfl) ?_
        refine lv_iconst (v := 0) hx hb dX4_others_53 (by decide) ?_
        refine va_put (D := D) (ci := 4) (v := .int (bI false)) (ty := .boolean) (C := RX4) (T := TX4) (N := 18) hx hb hws inlX4 tyX4 tyX4_ok nmX4 hown hK hP hD hS 0 rfl rfl 9 (by decide) (hws _ mw_371) (fun _ h9 => h9) rfl (tyX4_ok 9 (by decide)) (bI_nar _) (bI_fit _) (Nat.le_of_ble_eq_true rfl) dX4_others_54 (fun H locs hP hD hS => ?_)
        have hP : va_P D vwCl (kX4 cB cI mo mb ma w_zf w_nf w_hf w_cf w_sp w_pc false false w_ht w_bg w_cn w_al w_cl w_ie w_ww w_th w_mm w_bs) H := hP
        have hD : va_D A (kX4 cB cI mo mb ma w_zf w_nf w_hf w_cf w_sp w_pc false false w_ht w_bg w_cn w_al w_cl w_ie w_ww w_th w_mm w_bs) := hD
        refine lv_goto (tgt := 76) hx hb dX4_others_57 (by decide) ?_
        rw [← hQ]
        exact W.vret hx hb hr (fun t ht hW => ⟨⟨(w_zf, w_nf, w_hf, w_cf, w_pc, false, false, w_cn, w_cl, w_ie, w_mm, w_bs), rfl, hf.symm, by rw [ht]; exact hP, va_K.moved hW.alike hK, hD⟩, hS.F ht⟩) hS.2.2 dX4_others_76
    · have hf := hf.trans (kt_eq c2)
      refine lv_aload_n hx hb dX4_others_30 rfl (lv_at hl 0 rfl) ?_
      refine lv_aload_n hx hb dX4_others_31 rfl (lv_at hl 0 rfl) ?_
      refine kc_Vi (wr := []) (As := []) (rest := [.ref mo]) (fun u9 => (kX4 cB cI mo mb ma w_zf w_nf w_hf w_cf w_sp (u9.1) w_on w_wt w_ht w_bg w_cn w_al (u9.2) w_ie w_ww w_th w_mm w_bs)) ⟨hx, hb, hml, hown, hws⟩ hK hP hD hS hA hT (c_X4_fetch l D cB cI mo mb ma H.size w_zf w_nf w_hf w_cf w_sp w_pc w_on w_wt w_ht w_bg w_cn w_al w_cl w_ie w_ww w_th w_mm w_bs ) (cwV 0 hws (gw_V mw_422 mw_423 mw_424 mw_5 mw_425) rfl rfl rfl hdX4_fetch ⟨Nat.le_of_ble_eq_true rfl, Nat.le_of_ble_eq_true rfl⟩) [0, 1, 2] [] [0, 1] [0, 1, 2] rfl rfl rfl rfl (by decide) rfl (fun _ => rfl) rfl 0 rfl rfl rfl rfl hl.1 rfl (Nat.le_of_ble_eq_true rfl) dX4_others_32 ⟨Nat.zero_le _, Nat.zero_le _⟩ (fun r10 u9 H locs hw9 hP hD hS => ?_)
      obtain ⟨b7, b8⟩ := u9
      have hP : va_P D vwCl (kX4 cB cI mo mb ma w_zf w_nf w_hf w_cf w_sp b7 w_on w_wt w_ht w_bg w_cn w_al b8 w_ie w_ww w_th w_mm w_bs) H := hP
      have hD : va_D A (kX4 cB cI mo mb ma w_zf w_nf w_hf w_cf w_sp b7 w_on w_wt w_ht w_bg w_cn w_al b8 w_ie w_ww w_th w_mm w_bs) := hD
      have hf := hf.trans (kE3 hw9)
      refine kc_Vv (wr := []) (As := [.int r10]) (rest := []) (fun u9 => (kX4 cB cI mo mb ma (u9.1) (u9.2.1) (u9.2.2.1) (u9.2.2.2.1) w_sp b7 w_on w_wt w_ht w_bg (u9.2.2.2.2.1) w_al (u9.2.2.2.2.2.1) w_ie w_ww w_th (u9.2.2.2.2.2.2.1) (u9.2.2.2.2.2.2.2))) ⟨hx, hb, hml, hown, hws⟩ hK hP hD hS hA hT (c_X4_extended l D cB cI mo mb ma H.size w_zf w_nf w_hf w_cf w_sp b7 w_on w_wt w_ht w_bg w_cn w_al b8 w_ie w_ww w_th w_mm w_bs r10) (cwV 1 hws (gw_V mw_551 mw_552 mw_553 mw_5 mw_554) rfl rfl rfl hdX4_extended ⟨Nat.le_of_ble_eq_true rfl, Nat.le_of_ble_eq_true rfl⟩) [0, 1, 2] [] [0, 1] [0, 1, 2] rfl rfl rfl rfl (by decide) rfl (fun _ => rfl) rfl 0 rfl rfl rfl rfl hl.1 rfl (Nat.le_of_ble_eq_true rfl) dX4_others_35 ⟨Nat.zero_le _, Nat.zero_le _⟩ (fun u9 H locs hw19 hP hD hS => ?_)
      obtain ⟨b11, b12, b13, b14, b15, b16, b17, b18⟩ := u9
      have hP : va_P D vwCl (kX4 cB cI mo mb ma b11 b12 b13 b14 w_sp b7 w_on w_wt w_ht w_bg b15 w_al b16 w_ie w_ww w_th b17 b18) H := hP
      have hD : va_D A (kX4 cB cI mo mb ma b11 b12 b13 b14 w_sp b7 w_on w_wt w_ht w_bg b15 w_al b16 w_ie w_ww w_th b17 b18) := hD
      have hf := hf.trans (kE8 hw19)
      refine lv_goto (tgt := 76) hx hb dX4_others_38 (by decide) ?_
      rw [← hQ]
      exact W.vret hx hb hr (fun t ht hW => ⟨⟨(b11, b12, b13, b14, b7, w_on, w_wt, b15, b16, w_ie, b17, b18), rfl, hf.symm, by rw [ht]; exact hP, va_K.moved hW.alike hK, hD⟩, hS.F ht⟩) hS.2.2 dX4_others_76
  · have hf := hf.trans (kt_eq c1)
    refine lv_aload_n hx hb dX4_others_4 rfl (lv_at hl 0 rfl) ?_
    refine lv_dup hx hb dX4_others_5 rfl ?_
    refine va_get (D := D) (ci := 4) (v := .int w_cl) (C := RX4) (T := TX4) (N := 18) hx hb hws inlX4 hown hK hP 0 rfl rfl 14 (by decide) (hws _ mw_367) (fun _ h9 => h9) rfl dX4_others_6 ?_
    refine lv_iconst (v := 1) hx hb dX4_others_9 (by decide) ?_
    refine lv_iadd hx hb dX4_others_10 ?_
    refine lv_topi (fun x20 ex20 => ?_)
    have hf := hf.trans (kE1 ex20)
    refine va_put (D := D) (ci := 4) (v := .int x20) (ty := .int) (C := RX4) (T := TX4) (N := 18) hx hb hws inlX4 tyX4 tyX4_ok nmX4 hown hK hP hD hS 0 rfl rfl 14 (by decide) (hws _ mw_367) (fun _ h9 => h9) rfl (tyX4_ok 14 (by decide)) rfl rfl (Nat.le_of_ble_eq_true rfl) dX4_others_11 (fun H locs hP hD hS => ?_)
    have hP : va_P D vwCl (kX4 cB cI mo mb ma w_zf w_nf w_hf w_cf w_sp w_pc w_on w_wt w_ht w_bg w_cn w_al x20 w_ie w_ww w_th w_mm w_bs) H := hP
    have hD : va_D A (kX4 cB cI mo mb ma w_zf w_nf w_hf w_cf w_sp w_pc w_on w_wt w_ht w_bg w_cn w_al x20 w_ie w_ww w_th w_mm w_bs) := hD
    refine lv_aload_n hx hb dX4_others_14 rfl (lv_at hl 0 rfl) ?_
    refine lv_aload_n hx hb dX4_others_15 rfl (lv_at hl 0 rfl) ?_
    refine kc_Vi (wr := []) (As := []) (rest := [.ref mo]) (fun u9 => (kX4 cB cI mo mb ma w_zf w_nf w_hf w_cf w_sp (u9.1) w_on w_wt w_ht w_bg w_cn w_al (u9.2) w_ie w_ww w_th w_mm w_bs)) ⟨hx, hb, hml, hown, hws⟩ hK hP hD hS hA hT (c_X4_fetchWord l D cB cI mo mb ma H.size w_zf w_nf w_hf w_cf w_sp w_pc w_on w_wt w_ht w_bg w_cn w_al x20 w_ie w_ww w_th w_mm w_bs ) (cwV 0 hws (gw_V mw_418 mw_419 mw_420 mw_5 mw_421) rfl rfl rfl hdX4_fetchWord ⟨Nat.le_of_ble_eq_true rfl, Nat.le_of_ble_eq_true rfl⟩) [0, 1, 2] [] [0, 1] [0, 1, 2] rfl rfl rfl rfl (by decide) rfl (fun _ => rfl) rfl 0 rfl rfl rfl rfl hl.1 rfl (Nat.le_of_ble_eq_true rfl) dX4_others_16 ⟨Nat.zero_le _, Nat.zero_le _⟩ (fun r24 u9 H locs hw23 hP hD hS => ?_)
    obtain ⟨b21, b22⟩ := u9
    have hP : va_P D vwCl (kX4 cB cI mo mb ma w_zf w_nf w_hf w_cf w_sp b21 w_on w_wt w_ht w_bg w_cn w_al b22 w_ie w_ww w_th w_mm w_bs) H := hP
    have hD : va_D A (kX4 cB cI mo mb ma w_zf w_nf w_hf w_cf w_sp b21 w_on w_wt w_ht w_bg w_cn w_al b22 w_ie w_ww w_th w_mm w_bs) := hD
    have hf := hf.trans (kE3 hw23)
    refine va_put (D := D) (ci := 4) (v := .int r24) (ty := .int) (C := RX4) (T := TX4) (N := 18) hx hb hws inlX4 tyX4 tyX4_ok nmX4 hown hK hP hD hS 0 rfl rfl 7 (by decide) (hws _ mw_370) (fun _ h9 => h9) rfl (tyX4_ok 7 (by decide)) rfl rfl (Nat.le_of_ble_eq_true rfl) dX4_others_19 (fun H locs hP hD hS => ?_)
    have hP : va_P D vwCl (kX4 cB cI mo mb ma w_zf w_nf w_hf w_cf w_sp r24 w_on w_wt w_ht w_bg w_cn w_al b22 w_ie w_ww w_th w_mm w_bs) H := hP
    have hD : va_D A (kX4 cB cI mo mb ma w_zf w_nf w_hf w_cf w_sp r24 w_on w_wt w_ht w_bg w_cn w_al b22 w_ie w_ww w_th w_mm w_bs) := hD
    refine lv_goto (tgt := 76) hx hb dX4_others_22 (by decide) ?_
    rw [← hQ]
    exact W.vret hx hb hr (fun t ht hW => ⟨⟨(w_zf, w_nf, w_hf, w_cf, r24, w_on, w_wt, w_cn, b22, w_ie, w_mm, w_bs), rfl, hf.symm, by rw [ht]; exact hP, va_K.moved hW.alike hK, hD⟩, hS.F ht⟩) hS.2.2 dX4_others_76
def fX4_calls (w_sp : Int32) (w_pc : Int32) (w_cn : Int32) (w_cl : Int32) (w_mm : Nat → Int32) (a1 : Int32) : Int32 × Int32 × Int32 × Int32 × (Nat → Int32) := (kU1 ((w_cl + (1 : Int32))) (fun (x1 : Int32) => (kU4 (fX4_push w_sp w_cn x1 w_mm w_pc) (fun (b2 : Int32) (b3 : Int32) (b4 : Int32) (b5 : Nat → Int32) => (b2, a1, b3, b4, b5)))))
def rmX4_calls : Room := { frames := 3, cells := 0, slots := 0, locals := 65 }
def wwX4_calls : List Cond := Cond.code yX4_calls cX4_calls 2 none :: wsL_law
theorem hdX4_calls : yX4_calls.cls = RX4 ∧ yX4_calls.cls ≠ "java/lang/invoke/MethodHandle" ∧ yX4_calls.cls ≠ "java/lang/invoke/VarHandle" ∧ (parseMethodDescriptor yX4_calls.desc).map (fun d => d.parameters.length) = some 1 := by decide +kernel
set_option maxHeartbeats 4000000 in
set_option maxRecDepth 100000 in
theorem c_X4_calls (l : Launch) (D : va_G) (cB : ClassId) (cI : ClassId) (mo mb ma sz : Nat) (w_zf : Bool) (w_nf : Bool) (w_hf : Bool) (w_cf : Bool) (w_sp : Int32) (w_pc : Int32) (w_on : Bool) (w_wt : Bool) (w_ht : Bool) (w_bg : Bool) (w_cn : Int32) (w_al : Int32) (w_cl : Int32) (w_ie : Bool) (w_ww : Bool) (w_th : Int32) (w_mm : Nat → Int32) (w_bs : Nat → Int32) (a1 : Int32)  : Met l yX4_calls wwX4_calls rmX4_calls (va_Pc [.ref mo, .int a1] (kp D (kX4 cB cI mo mb ma w_zf w_nf w_hf w_cf w_sp w_pc w_on w_wt w_ht w_bg w_cn w_al w_cl w_ie w_ww w_th w_mm w_bs) [(cB, .byte), (cI, .int)] sz)) (va_Qv (fun (u9 : Int32 × Int32 × Int32 × Int32 × (Nat → Int32)) => u9 = fX4_calls w_sp w_pc w_cn w_cl w_mm a1) (fun u9 t => kq D (kX4 cB cI mo mb ma w_zf w_nf w_hf w_cf (u9.1) (u9.2.1) w_on w_wt w_ht w_bg (u9.2.2.1) w_al (u9.2.2.2.1) w_ie w_ww w_th (u9.2.2.2.2) w_bs) [(cB, .byte), (cI, .int)] (va_A (kX4 cB cI mo mb ma w_zf w_nf w_hf w_cf w_sp w_pc w_on w_wt w_ht w_bg w_cn w_al w_cl w_ie w_ww w_th w_mm w_bs) sz) t) (va_A (kX4 cB cI mo mb ma w_zf w_nf w_hf w_cf w_sp w_pc w_on w_wt w_ht w_bg w_cn w_al w_cl w_ie w_ww w_th w_mm w_bs) sz)) 0 0 (va_A (kX4 cB cI mo mb ma w_zf w_nf w_hf w_cf w_sp w_pc w_on w_wt w_ht w_bg w_cn w_al w_cl w_ie w_ww w_th w_mm w_bs) sz) := by
  refine Met.ofW (cc := cX4_calls) (maxL := 2) (ret := none) (by decide) rfl ?_
  intro p e s m args below meth c s₁ B hml hv
  obtain ⟨rfl, hsz, hP, hK, hD0, hT⟩ := hv
  have hx := B.exec
  have hb := B.bytes
  have hr := B.returns
  have hts := atoms_spec (ws := wwX4_calls) B.pre
  have hws : ∀ w ∈ wsL_law, w.before _ s = true := fun w h => hts w (List.mem_cons_of_mem _ h)
  have hown : s.vm.findClass RX4 = some m.cls := findClass_of_methodNamed B.named
  have hlocks := B.notSynchronized
  subst hsz
  have hD := hD0.self (sz := s.heap.size)
  generalize hAe : va_A (kX4 cB cI mo mb ma w_zf w_nf w_hf w_cf w_sp w_pc w_on w_wt w_ht w_bg w_cn w_al w_cl w_ie w_ww w_th w_mm w_bs) s.heap.size = A at hD hT ⊢
  have hA : ∀ q : Nat, s.heap.size ≤ q → A q := fun q h => by rw [← hAe]; exact Or.inr h
  have hS : va_S A s.heap s.heap [] := va_S.rf
  have hl := lv_entry ([.ref mo, .int a1]) (n := 2) (Nat.le_of_ble_eq_true rfl)
  rw [lg_entry_eq]
  generalize (lg_sl ([.ref mo, .int a1]) ++ List.replicate (2 - (lg_sl ([.ref mo, .int a1])).length) Slot.unset).toArray = ls at hl ⊢
  have hl : lv_has ls 2 [(0, .ref mo), (1, .int a1)] := hl
  generalize hQ : MQ _ _ _ _ _ _ _ = Q
  obtain ⟨H, hHe⟩ : ∃ H : Heap, H = s.heap := ⟨_, rfl⟩
  obtain ⟨locs, hle⟩ : ∃ L : List Loc, L = [] := ⟨_, rfl⟩
  have hP : va_P D vwCl (kX4 cB cI mo mb ma w_zf w_nf w_hf w_cf w_sp w_pc w_on w_wt w_ht w_bg w_cn w_al w_cl w_ie w_ww w_th w_mm w_bs) H := by rw [hHe]; exact hP
  have hS : va_S A s.heap H locs := by rw [hHe, hle]; exact hS
  refine kw_start hHe.symm hle.symm ?_
  have hf : fX4_calls w_sp w_pc w_cn w_cl w_mm a1 = fX4_calls w_sp w_pc w_cn w_cl w_mm a1 := rfl
  refine lv_aload_n hx hb dX4_calls_0 rfl (lv_at hl 0 rfl) ?_
  refine lv_dup hx hb dX4_calls_1 rfl ?_
  refine va_get (D := D) (ci := 4) (v := .int w_cl) (C := RX4) (T := TX4) (N := 18) hx hb hws inlX4 hown hK hP 0 rfl rfl 14 (by decide) (hws _ mw_367) (fun _ h9 => h9) rfl dX4_calls_2 ?_
  refine lv_iconst (v := 1) hx hb dX4_calls_5 (by decide) ?_
  refine lv_iadd hx hb dX4_calls_6 ?_
  refine lv_topi (fun x1 ex1 => ?_)
  have hf := hf.trans (kE1 ex1)
  refine va_put (D := D) (ci := 4) (v := .int x1) (ty := .int) (C := RX4) (T := TX4) (N := 18) hx hb hws inlX4 tyX4 tyX4_ok nmX4 hown hK hP hD hS 0 rfl rfl 14 (by decide) (hws _ mw_367) (fun _ h9 => h9) rfl (tyX4_ok 14 (by decide)) rfl rfl (Nat.le_of_ble_eq_true rfl) dX4_calls_7 (fun H locs hP hD hS => ?_)
  have hP : va_P D vwCl (kX4 cB cI mo mb ma w_zf w_nf w_hf w_cf w_sp w_pc w_on w_wt w_ht w_bg w_cn w_al x1 w_ie w_ww w_th w_mm w_bs) H := hP
  have hD : va_D A (kX4 cB cI mo mb ma w_zf w_nf w_hf w_cf w_sp w_pc w_on w_wt w_ht w_bg w_cn w_al x1 w_ie w_ww w_th w_mm w_bs) := hD
  refine lv_aload_n hx hb dX4_calls_10 rfl (lv_at hl 0 rfl) ?_
  refine lv_aload_n hx hb dX4_calls_11 rfl (lv_at hl 0 rfl) ?_
  refine va_get (D := D) (ci := 4) (v := .int w_pc) (C := RX4) (T := TX4) (N := 18) hx hb hws inlX4 hown hK hP 0 rfl rfl 7 (by decide) (hws _ mw_370) (fun _ h9 => h9) rfl dX4_calls_12 ?_
  refine kc_Vv (wr := []) (As := [.int w_pc]) (rest := []) (fun u9 => (kX4 cB cI mo mb ma w_zf w_nf w_hf w_cf (u9.1) w_pc w_on w_wt w_ht w_bg (u9.2.1) w_al (u9.2.2.1) w_ie w_ww w_th (u9.2.2.2) w_bs)) ⟨hx, hb, hml, hown, hws⟩ hK hP hD hS hA hT (c_X4_push l D cB cI mo mb ma H.size w_zf w_nf w_hf w_cf w_sp w_pc w_on w_wt w_ht w_bg w_cn w_al x1 w_ie w_ww w_th w_mm w_bs w_pc) (cwV 1 hws (gw_V mw_378 mw_379 mw_380 mw_5 mw_381) rfl rfl rfl hdX4_push ⟨Nat.le_of_ble_eq_true rfl, Nat.le_of_ble_eq_true rfl⟩) [0, 1, 2] [] [0, 1] [0, 1, 2] rfl rfl rfl rfl (by decide) rfl (fun _ => rfl) rfl 0 rfl rfl rfl rfl hl.1 rfl (Nat.le_of_ble_eq_true rfl) dX4_calls_15 ⟨Nat.zero_le _, Nat.zero_le _⟩ (fun u9 H locs hw6 hP hD hS => ?_)
  obtain ⟨b2, b3, b4, b5⟩ := u9
  have hP : va_P D vwCl (kX4 cB cI mo mb ma w_zf w_nf w_hf w_cf b2 w_pc w_on w_wt w_ht w_bg b3 w_al b4 w_ie w_ww w_th b5 w_bs) H := hP
  have hD : va_D A (kX4 cB cI mo mb ma w_zf w_nf w_hf w_cf b2 w_pc w_on w_wt w_ht w_bg b3 w_al b4 w_ie w_ww w_th b5 w_bs) := hD
  have hf := hf.trans (kE4 hw6)
  refine lv_aload_n hx hb dX4_calls_18 rfl (lv_at hl 0 rfl) ?_
  refine lv_iload_n hx hb dX4_calls_19 rfl (lv_at hl 1 rfl) ?_
  refine va_put (D := D) (ci := 4) (v := .int a1) (ty := .int) (C := RX4) (T := TX4) (N := 18) hx hb hws inlX4 tyX4 tyX4_ok nmX4 hown hK hP hD hS 0 rfl rfl 7 (by decide) (hws _ mw_370) (fun _ h9 => h9) rfl (tyX4_ok 7 (by decide)) rfl rfl (Nat.le_of_ble_eq_true rfl) dX4_calls_20 (fun H locs hP hD hS => ?_)
  have hP : va_P D vwCl (kX4 cB cI mo mb ma w_zf w_nf w_hf w_cf b2 a1 w_on w_wt w_ht w_bg b3 w_al b4 w_ie w_ww w_th b5 w_bs) H := hP
  have hD : va_D A (kX4 cB cI mo mb ma w_zf w_nf w_hf w_cf b2 a1 w_on w_wt w_ht w_bg b3 w_al b4 w_ie w_ww w_th b5 w_bs) := hD
  rw [← hQ]
  exact W.vret hx hb hr (fun t ht hW => ⟨⟨(b2, a1, b3, b4, b5), rfl, hf.symm, by rw [ht]; exact hP, va_K.moved hW.alike hK, hD⟩, hS.F ht⟩) hS.2.2 dX4_calls_23
def fX4_callsIf (w_zf : Bool) (w_cf : Bool) (w_sp : Int32) (w_pc : Int32) (w_cn : Int32) (w_cl : Int32) (w_mm : Nat → Int32) (a1 : Int32) : Int32 × Int32 × Int32 × Int32 × (Nat → Int32) := (kU3 (fX4_fetchWord w_pc w_cl w_mm) (fun (r4 : Int32) (b1 : Int32) (b2 : Int32) => (kU1 (fX4_holds w_zf w_cf a1) (fun (z7 : Bool) => (kIf (kEq (bI z7) (0 : Int32)) (w_sp, b1, w_cn, b2, w_mm) (kU5 (fX4_calls w_sp b1 w_cn b2 w_mm r4) (fun (b9 : Int32) (b10 : Int32) (b11 : Int32) (b12 : Int32) (b13 : Nat → Int32) => (b9, b10, b11, b12, b13))))))))
def rmX4_callsIf : Room := { frames := 4, cells := 0, slots := 0, locals := 86 }
def wwX4_callsIf : List Cond := Cond.code yX4_callsIf cX4_callsIf 3 none :: wsL_law
theorem hdX4_callsIf : yX4_callsIf.cls = RX4 ∧ yX4_callsIf.cls ≠ "java/lang/invoke/MethodHandle" ∧ yX4_callsIf.cls ≠ "java/lang/invoke/VarHandle" ∧ (parseMethodDescriptor yX4_callsIf.desc).map (fun d => d.parameters.length) = some 1 := by decide +kernel
set_option maxHeartbeats 4000000 in
set_option maxRecDepth 100000 in
theorem c_X4_callsIf (l : Launch) (D : va_G) (cB : ClassId) (cI : ClassId) (mo mb ma sz : Nat) (w_zf : Bool) (w_nf : Bool) (w_hf : Bool) (w_cf : Bool) (w_sp : Int32) (w_pc : Int32) (w_on : Bool) (w_wt : Bool) (w_ht : Bool) (w_bg : Bool) (w_cn : Int32) (w_al : Int32) (w_cl : Int32) (w_ie : Bool) (w_ww : Bool) (w_th : Int32) (w_mm : Nat → Int32) (w_bs : Nat → Int32) (a1 : Int32)  : Met l yX4_callsIf wwX4_callsIf rmX4_callsIf (va_Pc [.ref mo, .int a1] (kp D (kX4 cB cI mo mb ma w_zf w_nf w_hf w_cf w_sp w_pc w_on w_wt w_ht w_bg w_cn w_al w_cl w_ie w_ww w_th w_mm w_bs) [(cB, .byte), (cI, .int)] sz)) (va_Qv (fun (u9 : Int32 × Int32 × Int32 × Int32 × (Nat → Int32)) => u9 = fX4_callsIf w_zf w_cf w_sp w_pc w_cn w_cl w_mm a1) (fun u9 t => kq D (kX4 cB cI mo mb ma w_zf w_nf w_hf w_cf (u9.1) (u9.2.1) w_on w_wt w_ht w_bg (u9.2.2.1) w_al (u9.2.2.2.1) w_ie w_ww w_th (u9.2.2.2.2) w_bs) [(cB, .byte), (cI, .int)] (va_A (kX4 cB cI mo mb ma w_zf w_nf w_hf w_cf w_sp w_pc w_on w_wt w_ht w_bg w_cn w_al w_cl w_ie w_ww w_th w_mm w_bs) sz) t) (va_A (kX4 cB cI mo mb ma w_zf w_nf w_hf w_cf w_sp w_pc w_on w_wt w_ht w_bg w_cn w_al w_cl w_ie w_ww w_th w_mm w_bs) sz)) 0 0 (va_A (kX4 cB cI mo mb ma w_zf w_nf w_hf w_cf w_sp w_pc w_on w_wt w_ht w_bg w_cn w_al w_cl w_ie w_ww w_th w_mm w_bs) sz) := by
  refine Met.ofW (cc := cX4_callsIf) (maxL := 3) (ret := none) (by decide) rfl ?_
  intro p e s m args below meth c s₁ B hml hv
  obtain ⟨rfl, hsz, hP, hK, hD0, hT⟩ := hv
  have hx := B.exec
  have hb := B.bytes
  have hr := B.returns
  have hts := atoms_spec (ws := wwX4_callsIf) B.pre
  have hws : ∀ w ∈ wsL_law, w.before _ s = true := fun w h => hts w (List.mem_cons_of_mem _ h)
  have hown : s.vm.findClass RX4 = some m.cls := findClass_of_methodNamed B.named
  have hlocks := B.notSynchronized
  subst hsz
  have hD := hD0.self (sz := s.heap.size)
  generalize hAe : va_A (kX4 cB cI mo mb ma w_zf w_nf w_hf w_cf w_sp w_pc w_on w_wt w_ht w_bg w_cn w_al w_cl w_ie w_ww w_th w_mm w_bs) s.heap.size = A at hD hT ⊢
  have hA : ∀ q : Nat, s.heap.size ≤ q → A q := fun q h => by rw [← hAe]; exact Or.inr h
  have hS : va_S A s.heap s.heap [] := va_S.rf
  have hl := lv_entry ([.ref mo, .int a1]) (n := 3) (Nat.le_of_ble_eq_true rfl)
  rw [lg_entry_eq]
  generalize (lg_sl ([.ref mo, .int a1]) ++ List.replicate (3 - (lg_sl ([.ref mo, .int a1])).length) Slot.unset).toArray = ls at hl ⊢
  have hl : lv_has ls 3 [(0, .ref mo), (1, .int a1)] := hl
  generalize hQ : MQ _ _ _ _ _ _ _ = Q
  obtain ⟨H, hHe⟩ : ∃ H : Heap, H = s.heap := ⟨_, rfl⟩
  obtain ⟨locs, hle⟩ : ∃ L : List Loc, L = [] := ⟨_, rfl⟩
  have hP : va_P D vwCl (kX4 cB cI mo mb ma w_zf w_nf w_hf w_cf w_sp w_pc w_on w_wt w_ht w_bg w_cn w_al w_cl w_ie w_ww w_th w_mm w_bs) H := by rw [hHe]; exact hP
  have hS : va_S A s.heap H locs := by rw [hHe, hle]; exact hS
  refine kw_start hHe.symm hle.symm ?_
  have hf : fX4_callsIf w_zf w_cf w_sp w_pc w_cn w_cl w_mm a1 = fX4_callsIf w_zf w_cf w_sp w_pc w_cn w_cl w_mm a1 := rfl
  refine lv_aload_n hx hb dX4_callsIf_0 rfl (lv_at hl 0 rfl) ?_
  refine kc_Vi (wr := []) (As := []) (rest := []) (fun u9 => (kX4 cB cI mo mb ma w_zf w_nf w_hf w_cf w_sp (u9.1) w_on w_wt w_ht w_bg w_cn w_al (u9.2) w_ie w_ww w_th w_mm w_bs)) ⟨hx, hb, hml, hown, hws⟩ hK hP hD hS hA hT (c_X4_fetchWord l D cB cI mo mb ma H.size w_zf w_nf w_hf w_cf w_sp w_pc w_on w_wt w_ht w_bg w_cn w_al w_cl w_ie w_ww w_th w_mm w_bs ) (cwV 0 hws (gw_V mw_418 mw_419 mw_420 mw_5 mw_421) rfl rfl rfl hdX4_fetchWord ⟨Nat.le_of_ble_eq_true rfl, Nat.le_of_ble_eq_true rfl⟩) [0, 1, 2] [] [0, 1] [0, 1, 2] rfl rfl rfl rfl (by decide) rfl (fun _ => rfl) rfl 0 rfl rfl rfl rfl hl.1 rfl (Nat.le_of_ble_eq_true rfl) dX4_callsIf_1 ⟨Nat.zero_le _, Nat.zero_le _⟩ (fun r4 u9 H locs hw3 hP hD hS => ?_)
  obtain ⟨b1, b2⟩ := u9
  have hP : va_P D vwCl (kX4 cB cI mo mb ma w_zf w_nf w_hf w_cf w_sp b1 w_on w_wt w_ht w_bg w_cn w_al b2 w_ie w_ww w_th w_mm w_bs) H := hP
  have hD : va_D A (kX4 cB cI mo mb ma w_zf w_nf w_hf w_cf w_sp b1 w_on w_wt w_ht w_bg w_cn w_al b2 w_ie w_ww w_th w_mm w_bs) := hD
  have hf := hf.trans (kE3 hw3)
  refine lv_istore_n (lv' := [(2, .int r4), (0, .ref mo), (1, .int a1)]) hx hb dX4_callsIf_4 rfl hl (by decide) rfl (fun ls hl => ?_)
  refine lv_aload_n hx hb dX4_callsIf_5 rfl (lv_at hl 1 rfl) ?_
  refine lv_iload_n hx hb dX4_callsIf_6 rfl (lv_at hl 2 rfl) ?_
  refine kc_Vi (wr := []) (As := [.int a1]) (rest := []) (fun _ => (kX4 cB cI mo mb ma w_zf w_nf w_hf w_cf w_sp b1 w_on w_wt w_ht w_bg w_cn w_al b2 w_ie w_ww w_th w_mm w_bs)) ⟨hx, hb, hml, hown, hws⟩ hK hP hD hS hA hT (c_X4_holds l D cB cI mo mb ma H.size w_zf w_nf w_hf w_cf w_sp b1 w_on w_wt w_ht w_bg w_cn w_al b2 w_ie w_ww w_th w_mm w_bs a1) (cwV 1 hws (gw_V mw_426 mw_427 mw_428 mw_5 mw_429) rfl rfl rfl hdX4_holds ⟨Nat.le_of_ble_eq_true rfl, Nat.le_of_ble_eq_true rfl⟩) [0, 1, 2] [] [0, 1] [0, 1, 2] rfl rfl rfl rfl (by decide) rfl (fun _ => rfl) rfl 0 rfl rfl rfl rfl hl.1 rfl (Nat.le_of_ble_eq_true rfl) dX4_callsIf_7 ⟨Nat.zero_le _, Nat.zero_le _⟩ (fun r6 _ H locs hw5 hP hD hS => ?_)
  obtain ⟨z7, rfl, hw5⟩ := hw5
  have hP : va_P D vwCl (kX4 cB cI mo mb ma w_zf w_nf w_hf w_cf w_sp b1 w_on w_wt w_ht w_bg w_cn w_al b2 w_ie w_ww w_th w_mm w_bs) H := hP
  have hD : va_D A (kX4 cB cI mo mb ma w_zf w_nf w_hf w_cf w_sp b1 w_on w_wt w_ht w_bg w_cn w_al b2 w_ie w_ww w_th w_mm w_bs) := hD
  have hf := hf.trans (kE1 hw5)
  refine lv_if_eq (tgt := 18) hx hb dX4_callsIf_10 (by decide) (fun c8 => ?_) (fun c8 => ?_)
  · have hf := hf.trans (kt_eq c8)
    rw [← hQ]
    exact W.vret hx hb hr (fun t ht hW => ⟨⟨(w_sp, b1, w_cn, b2, w_mm), rfl, hf.symm, by rw [ht]; exact hP, va_K.moved hW.alike hK, hD⟩, hS.F ht⟩) hS.2.2 dX4_callsIf_18
  · have hf := hf.trans (kf_eq c8)
    refine lv_aload_n hx hb dX4_callsIf_13 rfl (lv_at hl 1 rfl) ?_
    refine lv_iload_n hx hb dX4_callsIf_14 rfl (lv_at hl 0 rfl) ?_
    refine kc_Vv (wr := []) (As := [.int r4]) (rest := []) (fun u9 => (kX4 cB cI mo mb ma w_zf w_nf w_hf w_cf (u9.1) (u9.2.1) w_on w_wt w_ht w_bg (u9.2.2.1) w_al (u9.2.2.2.1) w_ie w_ww w_th (u9.2.2.2.2) w_bs)) ⟨hx, hb, hml, hown, hws⟩ hK hP hD hS hA hT (c_X4_calls l D cB cI mo mb ma H.size w_zf w_nf w_hf w_cf w_sp b1 w_on w_wt w_ht w_bg w_cn w_al b2 w_ie w_ww w_th w_mm w_bs r4) (cwV 1 hws (gw_V mw_559 mw_560 mw_561 mw_5 mw_562) rfl rfl rfl hdX4_calls ⟨Nat.le_of_ble_eq_true rfl, Nat.le_of_ble_eq_true rfl⟩) [0, 1, 2] [] [0, 1] [0, 1, 2] rfl rfl rfl rfl (by decide) rfl (fun _ => rfl) rfl 0 rfl rfl rfl rfl hl.1 rfl (Nat.le_of_ble_eq_true rfl) dX4_callsIf_15 ⟨Nat.zero_le _, Nat.zero_le _⟩ (fun u9 H locs hw14 hP hD hS => ?_)
    obtain ⟨b9, b10, b11, b12, b13⟩ := u9
    have hP : va_P D vwCl (kX4 cB cI mo mb ma w_zf w_nf w_hf w_cf b9 b10 w_on w_wt w_ht w_bg b11 w_al b12 w_ie w_ww w_th b13 w_bs) H := hP
    have hD : va_D A (kX4 cB cI mo mb ma w_zf w_nf w_hf w_cf b9 b10 w_on w_wt w_ht w_bg b11 w_al b12 w_ie w_ww w_th b13 w_bs) := hD
    have hf := hf.trans (kE5 hw14)
    rw [← hQ]
    exact W.vret hx hb hr (fun t ht hW => ⟨⟨(b9, b10, b11, b12, b13), rfl, hf.symm, by rw [ht]; exact hP, va_K.moved hW.alike hK, hD⟩, hS.F ht⟩) hS.2.2 dX4_callsIf_18
def fX4_last (w_zf : Bool) (w_nf : Bool) (w_hf : Bool) (w_cf : Bool) (w_sp : Int32) (w_pc : Int32) (w_on : Bool) (w_wt : Bool) (w_cn : Int32) (w_cl : Int32) (w_ie : Bool) (w_mm : Nat → Int32) (w_bs : Nat → Int32) (a1 : Int32) (a2 : Int32) : Bool × Bool × Bool × Bool × Int32 × Int32 × Bool × Bool × Int32 × Int32 × Bool × (Nat → Int32) × (Nat → Int32) := (kIf (kEq a2 (0 : Int32)) (kIf (kLe (4 : Int32) a1) (kU10 (fX4_high w_zf w_nf w_hf w_cf w_sp w_pc w_cn w_cl w_mm w_bs a1) (fun (b3 : Bool) (b4 : Bool) (b5 : Bool) (b6 : Bool) (b7 : Int32) (b8 : Int32) (b9 : Int32) (b10 : Int32) (b11 : Nat → Int32) (b12 : Nat → Int32) => (b3, b4, b5, b6, b7, b8, w_on, w_wt, b9, b10, w_ie, b11, b12))) (kU3 (fX4_returnsIf w_zf w_cf w_sp w_pc w_cl w_mm a1) (fun (b14 : Int32) (b15 : Int32) (b16 : Int32) => (w_zf, w_nf, w_hf, w_cf, b14, b15, w_on, w_wt, w_cn, b16, w_ie, w_mm, w_bs)))) (kIf (kEq a2 (1 : Int32)) (kU10 (fX4_popsOr w_zf w_nf w_hf w_cf w_sp w_pc w_on w_wt w_cl w_mm w_bs a1) (fun (b19 : Bool) (b20 : Bool) (b21 : Bool) (b22 : Bool) (b23 : Int32) (b24 : Int32) (b25 : Bool) (b26 : Bool) (b27 : Int32) (b28 : Nat → Int32) => (b19, b20, b21, b22, b23, b24, b25, b26, w_cn, b27, w_ie, w_mm, b28))) (kIf (kEq a2 (2 : Int32)) (kIf (kLe (4 : Int32) a1) (kU5 (fX4_far w_pc w_cn w_cl w_mm w_bs a1) (fun (b32 : Int32) (b33 : Int32) (b34 : Int32) (b35 : Nat → Int32) (b36 : Nat → Int32) => (w_zf, w_nf, w_hf, w_cf, w_sp, b32, w_on, w_wt, b33, b34, w_ie, b35, b36))) (kU2 (fX4_jumpsIf w_zf w_cf w_pc w_cl w_mm a1) (fun (b38 : Int32) (b39 : Int32) => (w_zf, w_nf, w_hf, w_cf, w_sp, b38, w_on, w_wt, w_cn, b39, w_ie, w_mm, w_bs)))) (kIf (kEq a2 (3 : Int32)) (kU12 (fX4_others w_zf w_nf w_hf w_cf w_pc w_on w_wt w_cn w_cl w_ie w_mm w_bs a1) (fun (b42 : Bool) (b43 : Bool) (b44 : Bool) (b45 : Bool) (b46 : Int32) (b47 : Bool) (b48 : Bool) (b49 : Int32) (b50 : Int32) (b51 : Bool) (b52 : Nat → Int32) (b53 : Nat → Int32) => (b42, b43, b44, b45, w_sp, b46, b47, b48, b49, b50, b51, b52, b53))) (kIf (kEq a2 (4 : Int32)) (kU5 (fX4_callsIf w_zf w_cf w_sp w_pc w_cn w_cl w_mm a1) (fun (b56 : Int32) (b57 : Int32) (b58 : Int32) (b59 : Int32) (b60 : Nat → Int32) => (w_zf, w_nf, w_hf, w_cf, b56, b57, w_on, w_wt, b58, b59, w_ie, b60, w_bs))) (kIf (kEq a2 (5 : Int32)) (kIf (kEq (a1 - a1 / (2 : Int32) * (2 : Int32)) (0 : Int32)) (kU1 ((w_cl + (1 : Int32))) (fun (x74 : Int32) => (kU1 (((kIf (kEq a1 (6 : Int32)) (kU1 (fX4_flags w_zf w_nf w_hf w_cf) (fun (r79 : Int32) => (((w_bs (7 : Int32).toNatClampNeg) <<< ((8 : Int32) &&& (31 : Int32))) ||| r79))) (kU1 (fX4_pair w_bs (a1 >>> ((1 : Int32) &&& (31 : Int32)))) (fun (r77 : Int32) => r77))) : Int32)) (fun (x80 : Int32) => (kU4 (fX4_push w_sp w_cn x74 w_mm x80) (fun (b82 : Int32) (b83 : Int32) (b84 : Int32) (b85 : Nat → Int32) => (w_zf, w_nf, w_hf, w_cf, b82, w_pc, w_on, w_wt, b83, b84, w_ie, b85, w_bs))))))) (kU3 (fX4_fetchWord w_pc w_cl w_mm) (fun (r67 : Int32) (b64 : Int32) (b65 : Int32) => (kU5 (fX4_calls w_sp b64 w_cn b65 w_mm r67) (fun (b68 : Int32) (b69 : Int32) (b70 : Int32) (b71 : Int32) (b72 : Nat → Int32) => (w_zf, w_nf, w_hf, w_cf, b68, b69, w_on, w_wt, b70, b71, w_ie, b72, w_bs)))))) (kIf (kEq a2 (6 : Int32)) (kU3 (fX4_fetch w_pc w_cl w_mm) (fun (r91 : Int32) (b88 : Int32) (b89 : Int32) => (kU5 (fX4_sums w_zf w_nf w_hf w_cf w_bs a1 r91) (fun (b92 : Bool) (b93 : Bool) (b94 : Bool) (b95 : Bool) (b96 : Nat → Int32) => (b92, b93, b94, b95, w_sp, b88, w_on, w_wt, w_cn, b89, w_ie, w_mm, b96))))) (kU5 (fX4_calls w_sp w_pc w_cn w_cl w_mm ((8 : Int32) * a1)) (fun (b98 : Int32) (b99 : Int32) (b100 : Int32) (b101 : Int32) (b102 : Nat → Int32) => (w_zf, w_nf, w_hf, w_cf, b98, b99, w_on, w_wt, b100, b101, w_ie, b102, w_bs))))))))))
def rmX4_last : Room := { frames := 5, cells := 0, slots := 0, locals := 111 }
def wwX4_last : List Cond := Cond.code yX4_last cX4_last 3 none :: wsL_law
theorem hdX4_last : yX4_last.cls = RX4 ∧ yX4_last.cls ≠ "java/lang/invoke/MethodHandle" ∧ yX4_last.cls ≠ "java/lang/invoke/VarHandle" ∧ (parseMethodDescriptor yX4_last.desc).map (fun d => d.parameters.length) = some 2 := by decide +kernel
set_option maxHeartbeats 4000000 in
set_option maxRecDepth 100000 in
theorem c_X4_last (l : Launch) (D : va_G) (cB : ClassId) (cI : ClassId) (mo mb ma sz : Nat) (w_zf : Bool) (w_nf : Bool) (w_hf : Bool) (w_cf : Bool) (w_sp : Int32) (w_pc : Int32) (w_on : Bool) (w_wt : Bool) (w_ht : Bool) (w_bg : Bool) (w_cn : Int32) (w_al : Int32) (w_cl : Int32) (w_ie : Bool) (w_ww : Bool) (w_th : Int32) (w_mm : Nat → Int32) (w_bs : Nat → Int32) (a1 : Int32) (a2 : Int32) (hpre1 : vp_in a1 8) : Met l yX4_last wwX4_last rmX4_last (va_Pc [.ref mo, .int a1, .int a2] (kp D (kX4 cB cI mo mb ma w_zf w_nf w_hf w_cf w_sp w_pc w_on w_wt w_ht w_bg w_cn w_al w_cl w_ie w_ww w_th w_mm w_bs) [(cB, .byte), (cI, .int)] sz)) (va_Qv (fun (u9 : Bool × Bool × Bool × Bool × Int32 × Int32 × Bool × Bool × Int32 × Int32 × Bool × (Nat → Int32) × (Nat → Int32)) => u9 = fX4_last w_zf w_nf w_hf w_cf w_sp w_pc w_on w_wt w_cn w_cl w_ie w_mm w_bs a1 a2) (fun u9 t => kq D (kX4 cB cI mo mb ma (u9.1) (u9.2.1) (u9.2.2.1) (u9.2.2.2.1) (u9.2.2.2.2.1) (u9.2.2.2.2.2.1) (u9.2.2.2.2.2.2.1) (u9.2.2.2.2.2.2.2.1) w_ht w_bg (u9.2.2.2.2.2.2.2.2.1) w_al (u9.2.2.2.2.2.2.2.2.2.1) (u9.2.2.2.2.2.2.2.2.2.2.1) w_ww w_th (u9.2.2.2.2.2.2.2.2.2.2.2.1) (u9.2.2.2.2.2.2.2.2.2.2.2.2)) [(cB, .byte), (cI, .int)] (va_A (kX4 cB cI mo mb ma w_zf w_nf w_hf w_cf w_sp w_pc w_on w_wt w_ht w_bg w_cn w_al w_cl w_ie w_ww w_th w_mm w_bs) sz) t) (va_A (kX4 cB cI mo mb ma w_zf w_nf w_hf w_cf w_sp w_pc w_on w_wt w_ht w_bg w_cn w_al w_cl w_ie w_ww w_th w_mm w_bs) sz)) 0 0 (va_A (kX4 cB cI mo mb ma w_zf w_nf w_hf w_cf w_sp w_pc w_on w_wt w_ht w_bg w_cn w_al w_cl w_ie w_ww w_th w_mm w_bs) sz) := by
  refine Met.ofW (cc := cX4_last) (maxL := 3) (ret := none) (by decide) rfl ?_
  intro p e s m args below meth c s₁ B hml hv
  obtain ⟨rfl, hsz, hP, hK, hD0, hT⟩ := hv
  have hx := B.exec
  have hb := B.bytes
  have hr := B.returns
  have hts := atoms_spec (ws := wwX4_last) B.pre
  have hws : ∀ w ∈ wsL_law, w.before _ s = true := fun w h => hts w (List.mem_cons_of_mem _ h)
  have hown : s.vm.findClass RX4 = some m.cls := findClass_of_methodNamed B.named
  have hlocks := B.notSynchronized
  subst hsz
  have hD := hD0.self (sz := s.heap.size)
  generalize hAe : va_A (kX4 cB cI mo mb ma w_zf w_nf w_hf w_cf w_sp w_pc w_on w_wt w_ht w_bg w_cn w_al w_cl w_ie w_ww w_th w_mm w_bs) s.heap.size = A at hD hT ⊢
  have hA : ∀ q : Nat, s.heap.size ≤ q → A q := fun q h => by rw [← hAe]; exact Or.inr h
  have hS : va_S A s.heap s.heap [] := va_S.rf
  have hl := lv_entry ([.ref mo, .int a1, .int a2]) (n := 3) (Nat.le_of_ble_eq_true rfl)
  rw [lg_entry_eq]
  generalize (lg_sl ([.ref mo, .int a1, .int a2]) ++ List.replicate (3 - (lg_sl ([.ref mo, .int a1, .int a2])).length) Slot.unset).toArray = ls at hl ⊢
  have hl : lv_has ls 3 [(0, .ref mo), (1, .int a1), (2, .int a2)] := hl
  generalize hQ : MQ _ _ _ _ _ _ _ = Q
  obtain ⟨H, hHe⟩ : ∃ H : Heap, H = s.heap := ⟨_, rfl⟩
  obtain ⟨locs, hle⟩ : ∃ L : List Loc, L = [] := ⟨_, rfl⟩
  have hP : va_P D vwCl (kX4 cB cI mo mb ma w_zf w_nf w_hf w_cf w_sp w_pc w_on w_wt w_ht w_bg w_cn w_al w_cl w_ie w_ww w_th w_mm w_bs) H := by rw [hHe]; exact hP
  have hS : va_S A s.heap H locs := by rw [hHe, hle]; exact hS
  refine kw_start hHe.symm hle.symm ?_
  have hf : fX4_last w_zf w_nf w_hf w_cf w_sp w_pc w_on w_wt w_cn w_cl w_ie w_mm w_bs a1 a2 = fX4_last w_zf w_nf w_hf w_cf w_sp w_pc w_on w_wt w_cn w_cl w_ie w_mm w_bs a1 a2 := rfl
  refine lv_iload_n hx hb dX4_last_0 rfl (lv_at hl 2 rfl) ?_
  by_cases c1 : a2 = (0 : Int32)
  · have hf := hf.trans (kt_eq c1)
    refine lv_tableIn (off := 43) (tgt := 44) hx hb dX4_last_1 (by rw [c1]; decide) (by rw [c1]; decide) (by rw [c1]; decide) (by decide) ?_
    refine lv_iload_n hx hb dX4_last_44 rfl (lv_at hl 1 rfl) ?_
    refine lv_iconst (v := 4) hx hb dX4_last_45 (by decide) ?_
    refine lv_icmp_ge (tgt := 57) hx hb dX4_last_46 (by decide) (fun c2 => ?_) (fun c2 => ?_)
    · have hf := hf.trans (kt_le c2)
      refine lv_aload_n hx hb dX4_last_57 rfl (lv_at hl 0 rfl) ?_
      refine lv_iload_n hx hb dX4_last_58 rfl (lv_at hl 1 rfl) ?_
      refine kc_Vv (wr := []) (As := [.int a1]) (rest := []) (fun u9 => (kX4 cB cI mo mb ma (u9.1) (u9.2.1) (u9.2.2.1) (u9.2.2.2.1) (u9.2.2.2.2.1) (u9.2.2.2.2.2.1) w_on w_wt w_ht w_bg (u9.2.2.2.2.2.2.1) w_al (u9.2.2.2.2.2.2.2.1) w_ie w_ww w_th (u9.2.2.2.2.2.2.2.2.1) (u9.2.2.2.2.2.2.2.2.2))) ⟨hx, hb, hml, hown, hws⟩ hK hP hD hS hA hT (c_X4_high l D cB cI mo mb ma H.size w_zf w_nf w_hf w_cf w_sp w_pc w_on w_wt w_ht w_bg w_cn w_al w_cl w_ie w_ww w_th w_mm w_bs a1) (cwV 1 hws (gw_V mw_522 mw_523 mw_524 mw_5 mw_525) rfl rfl rfl hdX4_high ⟨Nat.le_of_ble_eq_true rfl, Nat.le_of_ble_eq_true rfl⟩) [0, 1, 2] [] [0, 1] [0, 1, 2] rfl rfl rfl rfl (by decide) rfl (fun _ => rfl) rfl 0 rfl rfl rfl rfl hl.1 rfl (Nat.le_of_ble_eq_true rfl) dX4_last_59 ⟨Nat.zero_le _, Nat.zero_le _⟩ (fun u9 H locs hw13 hP hD hS => ?_)
      obtain ⟨b3, b4, b5, b6, b7, b8, b9, b10, b11, b12⟩ := u9
      have hP : va_P D vwCl (kX4 cB cI mo mb ma b3 b4 b5 b6 b7 b8 w_on w_wt w_ht w_bg b9 w_al b10 w_ie w_ww w_th b11 b12) H := hP
      have hD : va_D A (kX4 cB cI mo mb ma b3 b4 b5 b6 b7 b8 w_on w_wt w_ht w_bg b9 w_al b10 w_ie w_ww w_th b11 b12) := hD
      have hf := hf.trans (kE10 hw13)
      refine lv_goto (tgt := 195) hx hb dX4_last_62 (by decide) ?_
      rw [← hQ]
      exact W.vret hx hb hr (fun t ht hW => ⟨⟨(b3, b4, b5, b6, b7, b8, w_on, w_wt, b9, b10, w_ie, b11, b12), rfl, hf.symm, by rw [ht]; exact hP, va_K.moved hW.alike hK, hD⟩, hS.F ht⟩) hS.2.2 dX4_last_195
    · have hf := hf.trans (kf_le c2)
      refine lv_aload_n hx hb dX4_last_49 rfl (lv_at hl 0 rfl) ?_
      refine lv_iload_n hx hb dX4_last_50 rfl (lv_at hl 1 rfl) ?_
      refine kc_Vv (wr := []) (As := [.int a1]) (rest := []) (fun u9 => (kX4 cB cI mo mb ma w_zf w_nf w_hf w_cf (u9.1) (u9.2.1) w_on w_wt w_ht w_bg w_cn w_al (u9.2.2) w_ie w_ww w_th w_mm w_bs)) ⟨hx, hb, hml, hown, hws⟩ hK hP hD hS hA hT (c_X4_returnsIf l D cB cI mo mb ma H.size w_zf w_nf w_hf w_cf w_sp w_pc w_on w_wt w_ht w_bg w_cn w_al w_cl w_ie w_ww w_th w_mm w_bs a1) (cwV 1 hws (gw_V mw_514 mw_515 mw_516 mw_5 mw_517) rfl rfl rfl hdX4_returnsIf ⟨Nat.le_of_ble_eq_true rfl, Nat.le_of_ble_eq_true rfl⟩) [0, 1, 2] [] [0, 1] [0, 1, 2] rfl rfl rfl rfl (by decide) rfl (fun _ => rfl) rfl 0 rfl rfl rfl rfl hl.1 rfl (Nat.le_of_ble_eq_true rfl) dX4_last_51 ⟨Nat.zero_le _, Nat.zero_le _⟩ (fun u9 H locs hw17 hP hD hS => ?_)
      obtain ⟨b14, b15, b16⟩ := u9
      have hP : va_P D vwCl (kX4 cB cI mo mb ma w_zf w_nf w_hf w_cf b14 b15 w_on w_wt w_ht w_bg w_cn w_al b16 w_ie w_ww w_th w_mm w_bs) H := hP
      have hD : va_D A (kX4 cB cI mo mb ma w_zf w_nf w_hf w_cf b14 b15 w_on w_wt w_ht w_bg w_cn w_al b16 w_ie w_ww w_th w_mm w_bs) := hD
      have hf := hf.trans (kE3 hw17)
      refine lv_goto (tgt := 195) hx hb dX4_last_54 (by decide) ?_
      rw [← hQ]
      exact W.vret hx hb hr (fun t ht hW => ⟨⟨(w_zf, w_nf, w_hf, w_cf, b14, b15, w_on, w_wt, w_cn, b16, w_ie, w_mm, w_bs), rfl, hf.symm, by rw [ht]; exact hP, va_K.moved hW.alike hK, hD⟩, hS.F ht⟩) hS.2.2 dX4_last_195
  · have hf := hf.trans (kf_eq c1)
    by_cases c18 : a2 = (1 : Int32)
    · have hf := hf.trans (kt_eq c18)
      refine lv_tableIn (off := 64) (tgt := 65) hx hb dX4_last_1 (by rw [c18]; decide) (by rw [c18]; decide) (by rw [c18]; decide) (by decide) ?_
      refine lv_aload_n hx hb dX4_last_65 rfl (lv_at hl 0 rfl) ?_
      refine lv_iload_n hx hb dX4_last_66 rfl (lv_at hl 1 rfl) ?_
      refine kc_Vv (wr := []) (As := [.int a1]) (rest := []) (fun u9 => (kX4 cB cI mo mb ma (u9.1) (u9.2.1) (u9.2.2.1) (u9.2.2.2.1) (u9.2.2.2.2.1) (u9.2.2.2.2.2.1) (u9.2.2.2.2.2.2.1) (u9.2.2.2.2.2.2.2.1) w_ht w_bg w_cn w_al (u9.2.2.2.2.2.2.2.2.1) w_ie w_ww w_th w_mm (u9.2.2.2.2.2.2.2.2.2))) ⟨hx, hb, hml, hown, hws⟩ hK hP hD hS hA hT (c_X4_popsOr l D cB cI mo mb ma H.size w_zf w_nf w_hf w_cf w_sp w_pc w_on w_wt w_ht w_bg w_cn w_al w_cl w_ie w_ww w_th w_mm w_bs a1 hpre1) (cwV 1 hws (gw_V mw_531 mw_532 mw_533 mw_5 mw_534) rfl rfl rfl hdX4_popsOr ⟨Nat.le_of_ble_eq_true rfl, Nat.le_of_ble_eq_true rfl⟩) [0, 1, 2] [] [0, 1] [0, 1, 2] rfl rfl rfl rfl (by decide) rfl (fun _ => rfl) rfl 0 rfl rfl rfl rfl hl.1 rfl (Nat.le_of_ble_eq_true rfl) dX4_last_67 ⟨Nat.zero_le _, Nat.zero_le _⟩ (fun u9 H locs hw29 hP hD hS => ?_)
      obtain ⟨b19, b20, b21, b22, b23, b24, b25, b26, b27, b28⟩ := u9
      have hP : va_P D vwCl (kX4 cB cI mo mb ma b19 b20 b21 b22 b23 b24 b25 b26 w_ht w_bg w_cn w_al b27 w_ie w_ww w_th w_mm b28) H := hP
      have hD : va_D A (kX4 cB cI mo mb ma b19 b20 b21 b22 b23 b24 b25 b26 w_ht w_bg w_cn w_al b27 w_ie w_ww w_th w_mm b28) := hD
      have hf := hf.trans (kE10 hw29)
      refine lv_goto (tgt := 195) hx hb dX4_last_70 (by decide) ?_
      rw [← hQ]
      exact W.vret hx hb hr (fun t ht hW => ⟨⟨(b19, b20, b21, b22, b23, b24, b25, b26, w_cn, b27, w_ie, w_mm, b28), rfl, hf.symm, by rw [ht]; exact hP, va_K.moved hW.alike hK, hD⟩, hS.F ht⟩) hS.2.2 dX4_last_195
    · have hf := hf.trans (kf_eq c18)
      by_cases c30 : a2 = (2 : Int32)
      · have hf := hf.trans (kt_eq c30)
        refine lv_tableIn (off := 72) (tgt := 73) hx hb dX4_last_1 (by rw [c30]; decide) (by rw [c30]; decide) (by rw [c30]; decide) (by decide) ?_
        refine lv_iload_n hx hb dX4_last_73 rfl (lv_at hl 1 rfl) ?_
        refine lv_iconst (v := 4) hx hb dX4_last_74 (by decide) ?_
        refine lv_icmp_ge (tgt := 86) hx hb dX4_last_75 (by decide) (fun c31 => ?_) (fun c31 => ?_)
        · have hf := hf.trans (kt_le c31)
          refine lv_aload_n hx hb dX4_last_86 rfl (lv_at hl 0 rfl) ?_
          refine lv_iload_n hx hb dX4_last_87 rfl (lv_at hl 1 rfl) ?_
          refine kc_Vv (wr := []) (As := [.int a1]) (rest := []) (fun u9 => (kX4 cB cI mo mb ma w_zf w_nf w_hf w_cf w_sp (u9.1) w_on w_wt w_ht w_bg (u9.2.1) w_al (u9.2.2.1) w_ie w_ww w_th (u9.2.2.2.1) (u9.2.2.2.2))) ⟨hx, hb, hml, hown, hws⟩ hK hP hD hS hA hT (c_X4_far l D cB cI mo mb ma H.size w_zf w_nf w_hf w_cf w_sp w_pc w_on w_wt w_ht w_bg w_cn w_al w_cl w_ie w_ww w_th w_mm w_bs a1) (cwV 1 hws (gw_V mw_543 mw_544 mw_545 mw_5 mw_546) rfl rfl rfl hdX4_far ⟨Nat.le_of_ble_eq_true rfl, Nat.le_of_ble_eq_true rfl⟩) [0, 1, 2] [] [0, 1] [0, 1, 2] rfl rfl rfl rfl (by decide) rfl (fun _ => rfl) rfl 0 rfl rfl rfl rfl hl.1 rfl (Nat.le_of_ble_eq_true rfl) dX4_last_88 ⟨Nat.zero_le _, Nat.zero_le _⟩ (fun u9 H locs hw37 hP hD hS => ?_)
          obtain ⟨b32, b33, b34, b35, b36⟩ := u9
          have hP : va_P D vwCl (kX4 cB cI mo mb ma w_zf w_nf w_hf w_cf w_sp b32 w_on w_wt w_ht w_bg b33 w_al b34 w_ie w_ww w_th b35 b36) H := hP
          have hD : va_D A (kX4 cB cI mo mb ma w_zf w_nf w_hf w_cf w_sp b32 w_on w_wt w_ht w_bg b33 w_al b34 w_ie w_ww w_th b35 b36) := hD
          have hf := hf.trans (kE5 hw37)
          refine lv_goto (tgt := 195) hx hb dX4_last_91 (by decide) ?_
          rw [← hQ]
          exact W.vret hx hb hr (fun t ht hW => ⟨⟨(w_zf, w_nf, w_hf, w_cf, w_sp, b32, w_on, w_wt, b33, b34, w_ie, b35, b36), rfl, hf.symm, by rw [ht]; exact hP, va_K.moved hW.alike hK, hD⟩, hS.F ht⟩) hS.2.2 dX4_last_195
        · have hf := hf.trans (kf_le c31)
          refine lv_aload_n hx hb dX4_last_78 rfl (lv_at hl 0 rfl) ?_
          refine lv_iload_n hx hb dX4_last_79 rfl (lv_at hl 1 rfl) ?_
          refine kc_Vv (wr := []) (As := [.int a1]) (rest := []) (fun u9 => (kX4 cB cI mo mb ma w_zf w_nf w_hf w_cf w_sp (u9.1) w_on w_wt w_ht w_bg w_cn w_al (u9.2) w_ie w_ww w_th w_mm w_bs)) ⟨hx, hb, hml, hown, hws⟩ hK hP hD hS hA hT (c_X4_jumpsIf l D cB cI mo mb ma H.size w_zf w_nf w_hf w_cf w_sp w_pc w_on w_wt w_ht w_bg w_cn w_al w_cl w_ie w_ww w_th w_mm w_bs a1) (cwV 1 hws (gw_V mw_539 mw_540 mw_541 mw_5 mw_542) rfl rfl rfl hdX4_jumpsIf ⟨Nat.le_of_ble_eq_true rfl, Nat.le_of_ble_eq_true rfl⟩) [0, 1, 2] [] [0, 1] [0, 1, 2] rfl rfl rfl rfl (by decide) rfl (fun _ => rfl) rfl 0 rfl rfl rfl rfl hl.1 rfl (Nat.le_of_ble_eq_true rfl) dX4_last_80 ⟨Nat.zero_le _, Nat.zero_le _⟩ (fun u9 H locs hw40 hP hD hS => ?_)
          obtain ⟨b38, b39⟩ := u9
          have hP : va_P D vwCl (kX4 cB cI mo mb ma w_zf w_nf w_hf w_cf w_sp b38 w_on w_wt w_ht w_bg w_cn w_al b39 w_ie w_ww w_th w_mm w_bs) H := hP
          have hD : va_D A (kX4 cB cI mo mb ma w_zf w_nf w_hf w_cf w_sp b38 w_on w_wt w_ht w_bg w_cn w_al b39 w_ie w_ww w_th w_mm w_bs) := hD
          have hf := hf.trans (kE2 hw40)
          refine lv_goto (tgt := 195) hx hb dX4_last_83 (by decide) ?_
          rw [← hQ]
          exact W.vret hx hb hr (fun t ht hW => ⟨⟨(w_zf, w_nf, w_hf, w_cf, w_sp, b38, w_on, w_wt, w_cn, b39, w_ie, w_mm, w_bs), rfl, hf.symm, by rw [ht]; exact hP, va_K.moved hW.alike hK, hD⟩, hS.F ht⟩) hS.2.2 dX4_last_195
      · have hf := hf.trans (kf_eq c30)
        by_cases c41 : a2 = (3 : Int32)
        · have hf := hf.trans (kt_eq c41)
          refine lv_tableIn (off := 93) (tgt := 94) hx hb dX4_last_1 (by rw [c41]; decide) (by rw [c41]; decide) (by rw [c41]; decide) (by decide) ?_
          refine lv_aload_n hx hb dX4_last_94 rfl (lv_at hl 0 rfl) ?_
          refine lv_iload_n hx hb dX4_last_95 rfl (lv_at hl 1 rfl) ?_
          refine kc_Vv (wr := []) (As := [.int a1]) (rest := []) (fun u9 => (kX4 cB cI mo mb ma (u9.1) (u9.2.1) (u9.2.2.1) (u9.2.2.2.1) w_sp (u9.2.2.2.2.1) (u9.2.2.2.2.2.1) (u9.2.2.2.2.2.2.1) w_ht w_bg (u9.2.2.2.2.2.2.2.1) w_al (u9.2.2.2.2.2.2.2.2.1) (u9.2.2.2.2.2.2.2.2.2.1) w_ww w_th (u9.2.2.2.2.2.2.2.2.2.2.1) (u9.2.2.2.2.2.2.2.2.2.2.2))) ⟨hx, hb, hml, hown, hws⟩ hK hP hD hS hA hT (c_X4_others l D cB cI mo mb ma H.size w_zf w_nf w_hf w_cf w_sp w_pc w_on w_wt w_ht w_bg w_cn w_al w_cl w_ie w_ww w_th w_mm w_bs a1) (cwV 1 hws (gw_V mw_547 mw_548 mw_549 mw_5 mw_550) rfl rfl rfl hdX4_others ⟨Nat.le_of_ble_eq_true rfl, Nat.le_of_ble_eq_true rfl⟩) [0, 1, 2] [] [0, 1] [0, 1, 2] rfl rfl rfl rfl (by decide) rfl (fun _ => rfl) rfl 0 rfl rfl rfl rfl hl.1 rfl (Nat.le_of_ble_eq_true rfl) dX4_last_96 ⟨Nat.zero_le _, Nat.zero_le _⟩ (fun u9 H locs hw54 hP hD hS => ?_)
          obtain ⟨b42, b43, b44, b45, b46, b47, b48, b49, b50, b51, b52, b53⟩ := u9
          have hP : va_P D vwCl (kX4 cB cI mo mb ma b42 b43 b44 b45 w_sp b46 b47 b48 w_ht w_bg b49 w_al b50 b51 w_ww w_th b52 b53) H := hP
          have hD : va_D A (kX4 cB cI mo mb ma b42 b43 b44 b45 w_sp b46 b47 b48 w_ht w_bg b49 w_al b50 b51 w_ww w_th b52 b53) := hD
          have hf := hf.trans (kE12 hw54)
          refine lv_goto (tgt := 195) hx hb dX4_last_99 (by decide) ?_
          rw [← hQ]
          exact W.vret hx hb hr (fun t ht hW => ⟨⟨(b42, b43, b44, b45, w_sp, b46, b47, b48, b49, b50, b51, b52, b53), rfl, hf.symm, by rw [ht]; exact hP, va_K.moved hW.alike hK, hD⟩, hS.F ht⟩) hS.2.2 dX4_last_195
        · have hf := hf.trans (kf_eq c41)
          by_cases c55 : a2 = (4 : Int32)
          · have hf := hf.trans (kt_eq c55)
            refine lv_tableIn (off := 101) (tgt := 102) hx hb dX4_last_1 (by rw [c55]; decide) (by rw [c55]; decide) (by rw [c55]; decide) (by decide) ?_
            refine lv_aload_n hx hb dX4_last_102 rfl (lv_at hl 0 rfl) ?_
            refine lv_iload_n hx hb dX4_last_103 rfl (lv_at hl 1 rfl) ?_
            refine kc_Vv (wr := []) (As := [.int a1]) (rest := []) (fun u9 => (kX4 cB cI mo mb ma w_zf w_nf w_hf w_cf (u9.1) (u9.2.1) w_on w_wt w_ht w_bg (u9.2.2.1) w_al (u9.2.2.2.1) w_ie w_ww w_th (u9.2.2.2.2) w_bs)) ⟨hx, hb, hml, hown, hws⟩ hK hP hD hS hA hT (c_X4_callsIf l D cB cI mo mb ma H.size w_zf w_nf w_hf w_cf w_sp w_pc w_on w_wt w_ht w_bg w_cn w_al w_cl w_ie w_ww w_th w_mm w_bs a1) (cwV 1 hws (gw_V mw_555 mw_556 mw_557 mw_5 mw_558) rfl rfl rfl hdX4_callsIf ⟨Nat.le_of_ble_eq_true rfl, Nat.le_of_ble_eq_true rfl⟩) [0, 1, 2] [] [0, 1] [0, 1, 2] rfl rfl rfl rfl (by decide) rfl (fun _ => rfl) rfl 0 rfl rfl rfl rfl hl.1 rfl (Nat.le_of_ble_eq_true rfl) dX4_last_104 ⟨Nat.zero_le _, Nat.zero_le _⟩ (fun u9 H locs hw61 hP hD hS => ?_)
            obtain ⟨b56, b57, b58, b59, b60⟩ := u9
            have hP : va_P D vwCl (kX4 cB cI mo mb ma w_zf w_nf w_hf w_cf b56 b57 w_on w_wt w_ht w_bg b58 w_al b59 w_ie w_ww w_th b60 w_bs) H := hP
            have hD : va_D A (kX4 cB cI mo mb ma w_zf w_nf w_hf w_cf b56 b57 w_on w_wt w_ht w_bg b58 w_al b59 w_ie w_ww w_th b60 w_bs) := hD
            have hf := hf.trans (kE5 hw61)
            refine lv_goto (tgt := 195) hx hb dX4_last_107 (by decide) ?_
            rw [← hQ]
            exact W.vret hx hb hr (fun t ht hW => ⟨⟨(w_zf, w_nf, w_hf, w_cf, b56, b57, w_on, w_wt, b58, b59, w_ie, b60, w_bs), rfl, hf.symm, by rw [ht]; exact hP, va_K.moved hW.alike hK, hD⟩, hS.F ht⟩) hS.2.2 dX4_last_195
          · have hf := hf.trans (kf_eq c55)
            by_cases c62 : a2 = (5 : Int32)
            · have hf := hf.trans (kt_eq c62)
              refine lv_tableIn (off := 109) (tgt := 110) hx hb dX4_last_1 (by rw [c62]; decide) (by rw [c62]; decide) (by rw [c62]; decide) (by decide) ?_
              refine lv_iload_n hx hb dX4_last_110 rfl (lv_at hl 1 rfl) ?_
              refine lv_iconst (v := 2) hx hb dX4_last_111 (by decide) ?_
              refine lv_irem hx hb dX4_last_112 (by decide) ?_
              refine lv_if_ne (tgt := 164) hx hb dX4_last_113 (by decide) (fun c63 => ?_) (fun c63 => ?_)
              · have hf := hf.trans (kf_eq c63)
                refine lv_aload_n hx hb dX4_last_164 rfl (lv_at hl 0 rfl) ?_
                refine lv_aload_n hx hb dX4_last_165 rfl (lv_at hl 0 rfl) ?_
                refine kc_Vi (wr := []) (As := []) (rest := [.ref mo]) (fun u9 => (kX4 cB cI mo mb ma w_zf w_nf w_hf w_cf w_sp (u9.1) w_on w_wt w_ht w_bg w_cn w_al (u9.2) w_ie w_ww w_th w_mm w_bs)) ⟨hx, hb, hml, hown, hws⟩ hK hP hD hS hA hT (c_X4_fetchWord l D cB cI mo mb ma H.size w_zf w_nf w_hf w_cf w_sp w_pc w_on w_wt w_ht w_bg w_cn w_al w_cl w_ie w_ww w_th w_mm w_bs ) (cwV 0 hws (gw_V mw_418 mw_419 mw_420 mw_5 mw_421) rfl rfl rfl hdX4_fetchWord ⟨Nat.le_of_ble_eq_true rfl, Nat.le_of_ble_eq_true rfl⟩) [0, 1, 2] [] [0, 1] [0, 1, 2] rfl rfl rfl rfl (by decide) rfl (fun _ => rfl) rfl 0 rfl rfl rfl rfl hl.1 rfl (Nat.le_of_ble_eq_true rfl) dX4_last_166 ⟨Nat.zero_le _, Nat.zero_le _⟩ (fun r67 u9 H locs hw66 hP hD hS => ?_)
                obtain ⟨b64, b65⟩ := u9
                have hP : va_P D vwCl (kX4 cB cI mo mb ma w_zf w_nf w_hf w_cf w_sp b64 w_on w_wt w_ht w_bg w_cn w_al b65 w_ie w_ww w_th w_mm w_bs) H := hP
                have hD : va_D A (kX4 cB cI mo mb ma w_zf w_nf w_hf w_cf w_sp b64 w_on w_wt w_ht w_bg w_cn w_al b65 w_ie w_ww w_th w_mm w_bs) := hD
                have hf := hf.trans (kE3 hw66)
                refine kc_Vv (wr := []) (As := [.int r67]) (rest := []) (fun u9 => (kX4 cB cI mo mb ma w_zf w_nf w_hf w_cf (u9.1) (u9.2.1) w_on w_wt w_ht w_bg (u9.2.2.1) w_al (u9.2.2.2.1) w_ie w_ww w_th (u9.2.2.2.2) w_bs)) ⟨hx, hb, hml, hown, hws⟩ hK hP hD hS hA hT (c_X4_calls l D cB cI mo mb ma H.size w_zf w_nf w_hf w_cf w_sp b64 w_on w_wt w_ht w_bg w_cn w_al b65 w_ie w_ww w_th w_mm w_bs r67) (cwV 1 hws (gw_V mw_559 mw_560 mw_561 mw_5 mw_562) rfl rfl rfl hdX4_calls ⟨Nat.le_of_ble_eq_true rfl, Nat.le_of_ble_eq_true rfl⟩) [0, 1, 2] [] [0, 1] [0, 1, 2] rfl rfl rfl rfl (by decide) rfl (fun _ => rfl) rfl 0 rfl rfl rfl rfl hl.1 rfl (Nat.le_of_ble_eq_true rfl) dX4_last_169 ⟨Nat.zero_le _, Nat.zero_le _⟩ (fun u9 H locs hw73 hP hD hS => ?_)
                obtain ⟨b68, b69, b70, b71, b72⟩ := u9
                have hP : va_P D vwCl (kX4 cB cI mo mb ma w_zf w_nf w_hf w_cf b68 b69 w_on w_wt w_ht w_bg b70 w_al b71 w_ie w_ww w_th b72 w_bs) H := hP
                have hD : va_D A (kX4 cB cI mo mb ma w_zf w_nf w_hf w_cf b68 b69 w_on w_wt w_ht w_bg b70 w_al b71 w_ie w_ww w_th b72 w_bs) := hD
                have hf := hf.trans (kE5 hw73)
                refine lv_goto (tgt := 195) hx hb dX4_last_172 (by decide) ?_
                rw [← hQ]
                exact W.vret hx hb hr (fun t ht hW => ⟨⟨(w_zf, w_nf, w_hf, w_cf, b68, b69, w_on, w_wt, b70, b71, w_ie, b72, w_bs), rfl, hf.symm, by rw [ht]; exact hP, va_K.moved hW.alike hK, hD⟩, hS.F ht⟩) hS.2.2 dX4_last_195
              · have hf := hf.trans (kt_eq c63)
                refine lv_aload_n hx hb dX4_last_116 rfl (lv_at hl 0 rfl) ?_
                refine lv_dup hx hb dX4_last_117 rfl ?_
                refine va_get (D := D) (ci := 4) (v := .int w_cl) (C := RX4) (T := TX4) (N := 18) hx hb hws inlX4 hown hK hP 0 rfl rfl 14 (by decide) (hws _ mw_367) (fun _ h9 => h9) rfl dX4_last_118 ?_
                refine lv_iconst (v := 1) hx hb dX4_last_121 (by decide) ?_
                refine lv_iadd hx hb dX4_last_122 ?_
                refine lv_topi (fun x74 ex74 => ?_)
                have hf := hf.trans (kE1 ex74)
                refine va_put (D := D) (ci := 4) (v := .int x74) (ty := .int) (C := RX4) (T := TX4) (N := 18) hx hb hws inlX4 tyX4 tyX4_ok nmX4 hown hK hP hD hS 0 rfl rfl 14 (by decide) (hws _ mw_367) (fun _ h9 => h9) rfl (tyX4_ok 14 (by decide)) rfl rfl (Nat.le_of_ble_eq_true rfl) dX4_last_123 (fun H locs hP hD hS => ?_)
                have hP : va_P D vwCl (kX4 cB cI mo mb ma w_zf w_nf w_hf w_cf w_sp w_pc w_on w_wt w_ht w_bg w_cn w_al x74 w_ie w_ww w_th w_mm w_bs) H := hP
                have hD : va_D A (kX4 cB cI mo mb ma w_zf w_nf w_hf w_cf w_sp w_pc w_on w_wt w_ht w_bg w_cn w_al x74 w_ie w_ww w_th w_mm w_bs) := hD
                refine lv_aload_n hx hb dX4_last_126 rfl (lv_at hl 0 rfl) ?_
                refine lv_iload_n hx hb dX4_last_127 rfl (lv_at hl 1 rfl) ?_
                refine lv_bipush (v := 6) hx hb dX4_last_128 (by decide) ?_
                obtain ⟨TJ81, hTJ81⟩ : ∃ T9 : Int32, T9 = (kIf (kEq a1 (6 : Int32)) (kU1 (fX4_flags w_zf w_nf w_hf w_cf) (fun (r79 : Int32) => (((w_bs (7 : Int32).toNatClampNeg) <<< ((8 : Int32) &&& (31 : Int32))) ||| r79))) (kU1 (fX4_pair w_bs (a1 >>> ((1 : Int32) &&& (31 : Int32)))) (fun (r77 : Int32) => r77))) := ⟨_, rfl⟩
                have J81 : ∀ (x80 : Int32), x80 = TJ81 → ∀ (H : Heap) (locs : List Loc) (ls : Array Slot), lv_has ls 3 [(0, .ref mo), (1, .int a1), (2, .int a2)] → va_P D vwCl (kX4 cB cI mo mb ma w_zf w_nf w_hf w_cf w_sp w_pc w_on w_wt w_ht w_bg w_cn w_al x74 w_ie w_ww w_th w_mm w_bs) H → va_D A (kX4 cB cI mo mb ma w_zf w_nf w_hf w_cf w_sp w_pc w_on w_wt w_ht w_bg w_cn w_al x74 w_ie w_ww w_th w_mm w_bs) → va_S A s.heap H locs → W p l e (headSpec wwX4_last rmX4_last).room s m ([.ref mo, .int a1, .int a2] : List Value).toArray below meth c H locs 0 0 Q (F0 m 158 ls [.int x80, .ref mo]) := by
                  intro x80 eJ81 H locs ls hl hP hD hS
                  have hf := hf.trans (kE1 (eJ81.trans hTJ81))
                  refine kc_Vv (wr := []) (As := [.int x80]) (rest := []) (fun u9 => (kX4 cB cI mo mb ma w_zf w_nf w_hf w_cf (u9.1) w_pc w_on w_wt w_ht w_bg (u9.2.1) w_al (u9.2.2.1) w_ie w_ww w_th (u9.2.2.2) w_bs)) ⟨hx, hb, hml, hown, hws⟩ hK hP hD hS hA hT (c_X4_push l D cB cI mo mb ma H.size w_zf w_nf w_hf w_cf w_sp w_pc w_on w_wt w_ht w_bg w_cn w_al x74 w_ie w_ww w_th w_mm w_bs x80) (cwV 1 hws (gw_V mw_378 mw_379 mw_380 mw_5 mw_381) rfl rfl rfl hdX4_push ⟨Nat.le_of_ble_eq_true rfl, Nat.le_of_ble_eq_true rfl⟩) [0, 1, 2] [] [0, 1] [0, 1, 2] rfl rfl rfl rfl (by decide) rfl (fun _ => rfl) rfl 0 rfl rfl rfl rfl hl.1 rfl (Nat.le_of_ble_eq_true rfl) dX4_last_158 ⟨Nat.zero_le _, Nat.zero_le _⟩ (fun u9 H locs hw86 hP hD hS => ?_)
                  obtain ⟨b82, b83, b84, b85⟩ := u9
                  have hP : va_P D vwCl (kX4 cB cI mo mb ma w_zf w_nf w_hf w_cf b82 w_pc w_on w_wt w_ht w_bg b83 w_al b84 w_ie w_ww w_th b85 w_bs) H := hP
                  have hD : va_D A (kX4 cB cI mo mb ma w_zf w_nf w_hf w_cf b82 w_pc w_on w_wt w_ht w_bg b83 w_al b84 w_ie w_ww w_th b85 w_bs) := hD
                  have hf := hf.trans (kE4 hw86)
                  refine lv_goto (tgt := 195) hx hb dX4_last_161 (by decide) ?_
                  rw [← hQ]
                  exact W.vret hx hb hr (fun t ht hW => ⟨⟨(w_zf, w_nf, w_hf, w_cf, b82, w_pc, w_on, w_wt, b83, b84, w_ie, b85, w_bs), rfl, hf.symm, by rw [ht]; exact hP, va_K.moved hW.alike hK, hD⟩, hS.F ht⟩) hS.2.2 dX4_last_195
                have hf := hTJ81
                refine lv_icmp_ne (tgt := 151) hx hb dX4_last_130 (by decide) (fun c75 => ?_) (fun c75 => ?_)
                · have hf := hf.trans (kf_eq c75)
                  refine lv_aload_n hx hb dX4_last_151 rfl (lv_at hl 0 rfl) ?_
                  refine lv_iload_n hx hb dX4_last_152 rfl (lv_at hl 1 rfl) ?_
                  refine lv_iconst (v := 1) hx hb dX4_last_153 (by decide) ?_
                  refine lv_ishr hx hb dX4_last_154 ?_
                  refine kc_Vi (wr := []) (As := [.int (a1 >>> ((1 : Int32) &&& (31 : Int32)))]) (rest := [.ref mo]) (fun _ => (kX4 cB cI mo mb ma w_zf w_nf w_hf w_cf w_sp w_pc w_on w_wt w_ht w_bg w_cn w_al x74 w_ie w_ww w_th w_mm w_bs)) ⟨hx, hb, hml, hown, hws⟩ hK hP hD hS hA hT (c_X4_pair l D cB cI mo mb ma H.size w_zf w_nf w_hf w_cf w_sp w_pc w_on w_wt w_ht w_bg w_cn w_al x74 w_ie w_ww w_th w_mm w_bs (a1 >>> ((1 : Int32) &&& (31 : Int32))) (ki_sh1 hpre1)) (cwV 1 hws (gw_V mw_444 mw_445 mw_446 mw_5 mw_447) rfl rfl rfl hdX4_pair ⟨Nat.le_of_ble_eq_true rfl, Nat.le_of_ble_eq_true rfl⟩) [0, 1, 2] [] [0, 1] [0, 1, 2] rfl rfl rfl rfl (by decide) rfl (fun _ => rfl) rfl 0 rfl rfl rfl rfl hl.1 rfl (Nat.le_of_ble_eq_true rfl) dX4_last_155 ⟨Nat.zero_le _, Nat.zero_le _⟩ (fun r77 _ H locs hw76 hP hD hS => ?_)
                  have hP : va_P D vwCl (kX4 cB cI mo mb ma w_zf w_nf w_hf w_cf w_sp w_pc w_on w_wt w_ht w_bg w_cn w_al x74 w_ie w_ww w_th w_mm w_bs) H := hP
                  have hD : va_D A (kX4 cB cI mo mb ma w_zf w_nf w_hf w_cf w_sp w_pc w_on w_wt w_ht w_bg w_cn w_al x74 w_ie w_ww w_th w_mm w_bs) := hD
                  have hf := hf.trans (kE1 hw76)
                  exact J81 r77 hf.symm H locs ls (lv_sub hl [0, 1, 2] rfl) hP hD hS
                · have hf := hf.trans (kt_eq c75)
                  refine lv_aload_n hx hb dX4_last_133 rfl (lv_at hl 0 rfl) ?_
                  refine va_get (D := D) (ci := 4) (v := .ref ma) (C := RX4) (T := TX4) (N := 18) hx hb hws inlX4 hown hK hP 0 rfl rfl 1 (by decide) (hws _ mw_45) (fun _ h9 => h9) rfl dX4_last_134 ?_
                  refine lv_bipush (v := 7) hx hb dX4_last_137 (by decide) ?_
                  refine va_iald hx hb hK hP 2 1 rfl rfl (by unfold vp_in; decide) dX4_last_139 ?_
                  refine lv_bipush (v := 8) hx hb dX4_last_140 (by decide) ?_
                  refine lv_ishl hx hb dX4_last_142 ?_
                  refine lv_aload_n hx hb dX4_last_143 rfl (lv_at hl 0 rfl) ?_
                  refine kc_Vi (wr := []) (As := []) (rest := [.int ((w_bs (7 : Int32).toNatClampNeg) <<< ((8 : Int32) &&& (31 : Int32))), .ref mo]) (fun _ => (kX4 cB cI mo mb ma w_zf w_nf w_hf w_cf w_sp w_pc w_on w_wt w_ht w_bg w_cn w_al x74 w_ie w_ww w_th w_mm w_bs)) ⟨hx, hb, hml, hown, hws⟩ hK hP hD hS hA hT (c_X4_flags l D cB cI mo mb ma H.size w_zf w_nf w_hf w_cf w_sp w_pc w_on w_wt w_ht w_bg w_cn w_al x74 w_ie w_ww w_th w_mm w_bs ) (cwV 0 hws (gw_V mw_563 mw_564 mw_565 mw_5 mw_566) rfl rfl rfl hdX4_flags ⟨Nat.le_of_ble_eq_true rfl, Nat.le_of_ble_eq_true rfl⟩) [0, 1, 2] [] [0, 1] [0, 1, 2] rfl rfl rfl rfl (by decide) rfl (fun _ => rfl) rfl 0 rfl rfl rfl rfl hl.1 rfl (Nat.le_of_ble_eq_true rfl) dX4_last_144 ⟨Nat.zero_le _, Nat.zero_le _⟩ (fun r79 _ H locs hw78 hP hD hS => ?_)
                  have hP : va_P D vwCl (kX4 cB cI mo mb ma w_zf w_nf w_hf w_cf w_sp w_pc w_on w_wt w_ht w_bg w_cn w_al x74 w_ie w_ww w_th w_mm w_bs) H := hP
                  have hD : va_D A (kX4 cB cI mo mb ma w_zf w_nf w_hf w_cf w_sp w_pc w_on w_wt w_ht w_bg w_cn w_al x74 w_ie w_ww w_th w_mm w_bs) := hD
                  have hf := hf.trans (kE1 hw78)
                  refine lv_ior hx hb dX4_last_147 ?_
                  refine lv_goto (tgt := 158) hx hb dX4_last_148 (by decide) ?_
                  exact J81 (((w_bs (7 : Int32).toNatClampNeg) <<< ((8 : Int32) &&& (31 : Int32))) ||| r79) hf.symm H locs ls (lv_sub hl [0, 1, 2] rfl) hP hD hS
            · have hf := hf.trans (kf_eq c62)
              by_cases c87 : a2 = (6 : Int32)
              · have hf := hf.trans (kt_eq c87)
                refine lv_tableIn (off := 174) (tgt := 175) hx hb dX4_last_1 (by rw [c87]; decide) (by rw [c87]; decide) (by rw [c87]; decide) (by decide) ?_
                refine lv_aload_n hx hb dX4_last_175 rfl (lv_at hl 0 rfl) ?_
                refine lv_iload_n hx hb dX4_last_176 rfl (lv_at hl 1 rfl) ?_
                refine lv_aload_n hx hb dX4_last_177 rfl (lv_at hl 0 rfl) ?_
                refine kc_Vi (wr := []) (As := []) (rest := [.int a1, .ref mo]) (fun u9 => (kX4 cB cI mo mb ma w_zf w_nf w_hf w_cf w_sp (u9.1) w_on w_wt w_ht w_bg w_cn w_al (u9.2) w_ie w_ww w_th w_mm w_bs)) ⟨hx, hb, hml, hown, hws⟩ hK hP hD hS hA hT (c_X4_fetch l D cB cI mo mb ma H.size w_zf w_nf w_hf w_cf w_sp w_pc w_on w_wt w_ht w_bg w_cn w_al w_cl w_ie w_ww w_th w_mm w_bs ) (cwV 0 hws (gw_V mw_422 mw_423 mw_424 mw_5 mw_425) rfl rfl rfl hdX4_fetch ⟨Nat.le_of_ble_eq_true rfl, Nat.le_of_ble_eq_true rfl⟩) [0, 1, 2] [] [0, 1] [0, 1, 2] rfl rfl rfl rfl (by decide) rfl (fun _ => rfl) rfl 0 rfl rfl rfl rfl hl.1 rfl (Nat.le_of_ble_eq_true rfl) dX4_last_178 ⟨Nat.zero_le _, Nat.zero_le _⟩ (fun r91 u9 H locs hw90 hP hD hS => ?_)
                obtain ⟨b88, b89⟩ := u9
                have hP : va_P D vwCl (kX4 cB cI mo mb ma w_zf w_nf w_hf w_cf w_sp b88 w_on w_wt w_ht w_bg w_cn w_al b89 w_ie w_ww w_th w_mm w_bs) H := hP
                have hD : va_D A (kX4 cB cI mo mb ma w_zf w_nf w_hf w_cf w_sp b88 w_on w_wt w_ht w_bg w_cn w_al b89 w_ie w_ww w_th w_mm w_bs) := hD
                have hf := hf.trans (kE3 hw90)
                refine kc_Vv (wr := []) (As := [.int a1, .int r91]) (rest := []) (fun u9 => (kX4 cB cI mo mb ma (u9.1) (u9.2.1) (u9.2.2.1) (u9.2.2.2.1) w_sp b88 w_on w_wt w_ht w_bg w_cn w_al b89 w_ie w_ww w_th w_mm (u9.2.2.2.2))) ⟨hx, hb, hml, hown, hws⟩ hK hP hD hS hA hT (c_X4_sums l D cB cI mo mb ma H.size w_zf w_nf w_hf w_cf w_sp b88 w_on w_wt w_ht w_bg w_cn w_al b89 w_ie w_ww w_th w_mm w_bs a1 r91) (cwV 2 hws (gw_V mw_498 mw_499 mw_500 mw_5 mw_501) rfl rfl rfl hdX4_sums ⟨Nat.le_of_ble_eq_true rfl, Nat.le_of_ble_eq_true rfl⟩) [0, 1, 2] [] [0, 1] [0, 1, 2] rfl rfl rfl rfl (by decide) rfl (fun _ => rfl) rfl 0 rfl rfl rfl rfl hl.1 rfl (Nat.le_of_ble_eq_true rfl) dX4_last_181 ⟨Nat.zero_le _, Nat.zero_le _⟩ (fun u9 H locs hw97 hP hD hS => ?_)
                obtain ⟨b92, b93, b94, b95, b96⟩ := u9
                have hP : va_P D vwCl (kX4 cB cI mo mb ma b92 b93 b94 b95 w_sp b88 w_on w_wt w_ht w_bg w_cn w_al b89 w_ie w_ww w_th w_mm b96) H := hP
                have hD : va_D A (kX4 cB cI mo mb ma b92 b93 b94 b95 w_sp b88 w_on w_wt w_ht w_bg w_cn w_al b89 w_ie w_ww w_th w_mm b96) := hD
                have hf := hf.trans (kE5 hw97)
                refine lv_goto (tgt := 195) hx hb dX4_last_184 (by decide) ?_
                rw [← hQ]
                exact W.vret hx hb hr (fun t ht hW => ⟨⟨(b92, b93, b94, b95, w_sp, b88, w_on, w_wt, w_cn, b89, w_ie, w_mm, b96), rfl, hf.symm, by rw [ht]; exact hP, va_K.moved hW.alike hK, hD⟩, hS.F ht⟩) hS.2.2 dX4_last_195
              · have hf := hf.trans (kf_eq c87)
                refine lv_tableOut (tgt := 187) hx hb dX4_last_1 (by have n0 := lv_neT c1 (a := 0) rfl; have n1 := lv_neT c18 (a := 1) rfl; have n2 := lv_neT c30 (a := 2) rfl; have n3 := lv_neT c41 (a := 3) rfl; have n4 := lv_neT c55 (a := 4) rfl; have n5 := lv_neT c62 (a := 5) rfl; have n6 := lv_neT c87 (a := 6) rfl; omega) (by decide) ?_
                refine lv_aload_n hx hb dX4_last_187 rfl (lv_at hl 0 rfl) ?_
                refine lv_bipush (v := 8) hx hb dX4_last_188 (by decide) ?_
                refine lv_iload_n hx hb dX4_last_190 rfl (lv_at hl 1 rfl) ?_
                refine lv_imul hx hb dX4_last_191 ?_
                refine kc_Vv (wr := []) (As := [.int ((8 : Int32) * a1)]) (rest := []) (fun u9 => (kX4 cB cI mo mb ma w_zf w_nf w_hf w_cf (u9.1) (u9.2.1) w_on w_wt w_ht w_bg (u9.2.2.1) w_al (u9.2.2.2.1) w_ie w_ww w_th (u9.2.2.2.2) w_bs)) ⟨hx, hb, hml, hown, hws⟩ hK hP hD hS hA hT (c_X4_calls l D cB cI mo mb ma H.size w_zf w_nf w_hf w_cf w_sp w_pc w_on w_wt w_ht w_bg w_cn w_al w_cl w_ie w_ww w_th w_mm w_bs ((8 : Int32) * a1)) (cwV 1 hws (gw_V mw_559 mw_560 mw_561 mw_5 mw_562) rfl rfl rfl hdX4_calls ⟨Nat.le_of_ble_eq_true rfl, Nat.le_of_ble_eq_true rfl⟩) [0, 1, 2] [] [0, 1] [0, 1, 2] rfl rfl rfl rfl (by decide) rfl (fun _ => rfl) rfl 0 rfl rfl rfl rfl hl.1 rfl (Nat.le_of_ble_eq_true rfl) dX4_last_192 ⟨Nat.zero_le _, Nat.zero_le _⟩ (fun u9 H locs hw103 hP hD hS => ?_)
                obtain ⟨b98, b99, b100, b101, b102⟩ := u9
                have hP : va_P D vwCl (kX4 cB cI mo mb ma w_zf w_nf w_hf w_cf b98 b99 w_on w_wt w_ht w_bg b100 w_al b101 w_ie w_ww w_th b102 w_bs) H := hP
                have hD : va_D A (kX4 cB cI mo mb ma w_zf w_nf w_hf w_cf b98 b99 w_on w_wt w_ht w_bg b100 w_al b101 w_ie w_ww w_th b102 w_bs) := hD
                have hf := hf.trans (kE5 hw103)
                rw [← hQ]
                exact W.vret hx hb hr (fun t ht hW => ⟨⟨(w_zf, w_nf, w_hf, w_cf, b98, b99, w_on, w_wt, b100, b101, w_ie, b102, w_bs), rfl, hf.symm, by rw [ht]; exact hP, va_K.moved hW.alike hK, hD⟩, hS.F ht⟩) hS.2.2 dX4_last_195
def fX4_instruction (w_zf : Bool) (w_nf : Bool) (w_hf : Bool) (w_cf : Bool) (w_sp : Int32) (w_pc : Int32) (w_on : Bool) (w_wt : Bool) (w_ht : Bool) (w_bg : Bool) (w_cn : Int32) (w_cl : Int32) (w_ie : Bool) (w_ww : Bool) (w_mm : Nat → Int32) (w_bs : Nat → Int32)  : Bool × Bool × Bool × Bool × Int32 × Int32 × Bool × Bool × Bool × Bool × Int32 × Int32 × Bool × (Nat → Int32) × (Nat → Int32) := (kU2 (fX4_reads w_cl w_mm w_pc) (fun (r3 : Int32) (b1 : Int32) => (kU1 (((kIf (kEq (bI w_bg) (0 : Int32)) (kU1 (((w_pc + (1 : Int32)) &&& (65535 : Int32))) (fun (x5 : Int32) => x5)) w_pc) : Int32)) (fun (b6 : Int32) => (kU1 (((r3 >>> ((3 : Int32) &&& (31 : Int32))) &&& (7 : Int32))) (fun (x8 : Int32) => (kU1 ((r3 &&& (7 : Int32))) (fun (x9 : Int32) => (kIf (kEq (r3 >>> ((6 : Int32) &&& (31 : Int32))) (0 : Int32)) (kU10 (fX4_first w_zf w_nf w_hf w_cf w_sp b6 w_cn b1 w_mm w_bs x8 x9) (fun (b11 : Bool) (b12 : Bool) (b13 : Bool) (b14 : Bool) (b15 : Int32) (b16 : Int32) (b17 : Int32) (b18 : Int32) (b19 : Nat → Int32) (b20 : Nat → Int32) => (b11, b12, b13, b14, b15, b16, w_on, w_wt, w_ht, false, b17, b18, w_ie, b19, b20))) (kIf (kEq (r3 >>> ((6 : Int32) &&& (31 : Int32))) (1 : Int32)) (kIf (kEq r3 (118 : Int32)) (kU3 (fX4_halts b6 w_on w_ht false w_ww w_mm w_pc) (fun (b32 : Int32) (b33 : Bool) (b34 : Bool) => (w_zf, w_nf, w_hf, w_cf, w_sp, b32, w_on, w_wt, b33, b34, w_cn, b1, w_ie, w_mm, w_bs))) (kU2 (fX4_operand b1 w_mm w_bs x9) (fun (r26 : Int32) (b24 : Int32) => (kU4 (fX4_setOperand w_cn b24 w_mm w_bs x8 r26) (fun (b27 : Int32) (b28 : Int32) (b29 : Nat → Int32) (b30 : Nat → Int32) => (w_zf, w_nf, w_hf, w_cf, w_sp, b6, w_on, w_wt, w_ht, false, b27, b28, w_ie, b29, b30)))))) (kIf (kEq (r3 >>> ((6 : Int32) &&& (31 : Int32))) (2 : Int32)) (kU2 (fX4_operand b1 w_mm w_bs x9) (fun (r39 : Int32) (b37 : Int32) => (kU5 (fX4_sums w_zf w_nf w_hf w_cf w_bs x8 r39) (fun (b40 : Bool) (b41 : Bool) (b42 : Bool) (b43 : Bool) (b44 : Nat → Int32) => (b40, b41, b42, b43, w_sp, b6, w_on, w_wt, w_ht, false, w_cn, b37, w_ie, w_mm, b44))))) (kU13 (fX4_last w_zf w_nf w_hf w_cf w_sp b6 w_on w_wt w_cn b1 w_ie w_mm w_bs x8 x9) (fun (b46 : Bool) (b47 : Bool) (b48 : Bool) (b49 : Bool) (b50 : Int32) (b51 : Int32) (b52 : Bool) (b53 : Bool) (b54 : Int32) (b55 : Int32) (b56 : Bool) (b57 : Nat → Int32) (b58 : Nat → Int32) => (b46, b47, b48, b49, b50, b51, b52, b53, w_ht, false, b54, b55, b56, b57, b58))))))))))))))
def rmX4_instruction : Room := { frames := 6, cells := 0, slots := 0, locals := 133 }
def wwX4_instruction : List Cond := Cond.code yX4_instruction cX4_instruction 5 none :: wsL_law
theorem hdX4_instruction : yX4_instruction.cls = RX4 ∧ yX4_instruction.cls ≠ "java/lang/invoke/MethodHandle" ∧ yX4_instruction.cls ≠ "java/lang/invoke/VarHandle" ∧ (parseMethodDescriptor yX4_instruction.desc).map (fun d => d.parameters.length) = some 0 := by decide +kernel
set_option maxHeartbeats 4000000 in
set_option maxRecDepth 100000 in
theorem c_X4_instruction (l : Launch) (D : va_G) (cB : ClassId) (cI : ClassId) (mo mb ma sz : Nat) (w_zf : Bool) (w_nf : Bool) (w_hf : Bool) (w_cf : Bool) (w_sp : Int32) (w_pc : Int32) (w_on : Bool) (w_wt : Bool) (w_ht : Bool) (w_bg : Bool) (w_cn : Int32) (w_al : Int32) (w_cl : Int32) (w_ie : Bool) (w_ww : Bool) (w_th : Int32) (w_mm : Nat → Int32) (w_bs : Nat → Int32)   : Met l yX4_instruction wwX4_instruction rmX4_instruction (va_Pc [.ref mo] (kp D (kX4 cB cI mo mb ma w_zf w_nf w_hf w_cf w_sp w_pc w_on w_wt w_ht w_bg w_cn w_al w_cl w_ie w_ww w_th w_mm w_bs) [(cB, .byte), (cI, .int)] sz)) (va_Qv (fun (u9 : Bool × Bool × Bool × Bool × Int32 × Int32 × Bool × Bool × Bool × Bool × Int32 × Int32 × Bool × (Nat → Int32) × (Nat → Int32)) => u9 = fX4_instruction w_zf w_nf w_hf w_cf w_sp w_pc w_on w_wt w_ht w_bg w_cn w_cl w_ie w_ww w_mm w_bs) (fun u9 t => kq D (kX4 cB cI mo mb ma (u9.1) (u9.2.1) (u9.2.2.1) (u9.2.2.2.1) (u9.2.2.2.2.1) (u9.2.2.2.2.2.1) (u9.2.2.2.2.2.2.1) (u9.2.2.2.2.2.2.2.1) (u9.2.2.2.2.2.2.2.2.1) (u9.2.2.2.2.2.2.2.2.2.1) (u9.2.2.2.2.2.2.2.2.2.2.1) w_al (u9.2.2.2.2.2.2.2.2.2.2.2.1) (u9.2.2.2.2.2.2.2.2.2.2.2.2.1) w_ww w_th (u9.2.2.2.2.2.2.2.2.2.2.2.2.2.1) (u9.2.2.2.2.2.2.2.2.2.2.2.2.2.2)) [(cB, .byte), (cI, .int)] (va_A (kX4 cB cI mo mb ma w_zf w_nf w_hf w_cf w_sp w_pc w_on w_wt w_ht w_bg w_cn w_al w_cl w_ie w_ww w_th w_mm w_bs) sz) t) (va_A (kX4 cB cI mo mb ma w_zf w_nf w_hf w_cf w_sp w_pc w_on w_wt w_ht w_bg w_cn w_al w_cl w_ie w_ww w_th w_mm w_bs) sz)) 0 0 (va_A (kX4 cB cI mo mb ma w_zf w_nf w_hf w_cf w_sp w_pc w_on w_wt w_ht w_bg w_cn w_al w_cl w_ie w_ww w_th w_mm w_bs) sz) := by
  refine Met.ofW (cc := cX4_instruction) (maxL := 5) (ret := none) (by decide) rfl ?_
  intro p e s m args below meth c s₁ B hml hv
  obtain ⟨rfl, hsz, hP, hK, hD0, hT⟩ := hv
  have hx := B.exec
  have hb := B.bytes
  have hr := B.returns
  have hts := atoms_spec (ws := wwX4_instruction) B.pre
  have hws : ∀ w ∈ wsL_law, w.before _ s = true := fun w h => hts w (List.mem_cons_of_mem _ h)
  have hown : s.vm.findClass RX4 = some m.cls := findClass_of_methodNamed B.named
  have hlocks := B.notSynchronized
  subst hsz
  have hD := hD0.self (sz := s.heap.size)
  generalize hAe : va_A (kX4 cB cI mo mb ma w_zf w_nf w_hf w_cf w_sp w_pc w_on w_wt w_ht w_bg w_cn w_al w_cl w_ie w_ww w_th w_mm w_bs) s.heap.size = A at hD hT ⊢
  have hA : ∀ q : Nat, s.heap.size ≤ q → A q := fun q h => by rw [← hAe]; exact Or.inr h
  have hS : va_S A s.heap s.heap [] := va_S.rf
  have hl := lv_entry ([.ref mo]) (n := 5) (Nat.le_of_ble_eq_true rfl)
  rw [lg_entry_eq]
  generalize (lg_sl ([.ref mo]) ++ List.replicate (5 - (lg_sl ([.ref mo])).length) Slot.unset).toArray = ls at hl ⊢
  have hl : lv_has ls 5 [(0, .ref mo)] := hl
  generalize hQ : MQ _ _ _ _ _ _ _ = Q
  obtain ⟨H, hHe⟩ : ∃ H : Heap, H = s.heap := ⟨_, rfl⟩
  obtain ⟨locs, hle⟩ : ∃ L : List Loc, L = [] := ⟨_, rfl⟩
  have hP : va_P D vwCl (kX4 cB cI mo mb ma w_zf w_nf w_hf w_cf w_sp w_pc w_on w_wt w_ht w_bg w_cn w_al w_cl w_ie w_ww w_th w_mm w_bs) H := by rw [hHe]; exact hP
  have hS : va_S A s.heap H locs := by rw [hHe, hle]; exact hS
  refine kw_start hHe.symm hle.symm ?_
  have hf : fX4_instruction w_zf w_nf w_hf w_cf w_sp w_pc w_on w_wt w_ht w_bg w_cn w_cl w_ie w_ww w_mm w_bs = fX4_instruction w_zf w_nf w_hf w_cf w_sp w_pc w_on w_wt w_ht w_bg w_cn w_cl w_ie w_ww w_mm w_bs := rfl
  refine lv_aload_n hx hb dX4_instruction_0 rfl (lv_at hl 0 rfl) ?_
  refine va_get (D := D) (ci := 4) (v := .int w_pc) (C := RX4) (T := TX4) (N := 18) hx hb hws inlX4 hown hK hP 0 rfl rfl 7 (by decide) (hws _ mw_370) (fun _ h9 => h9) rfl dX4_instruction_1 ?_
  refine lv_istore_n (lv' := [(1, .int w_pc), (0, .ref mo)]) hx hb dX4_instruction_4 rfl hl (by decide) rfl (fun ls hl => ?_)
  refine lv_aload_n hx hb dX4_instruction_5 rfl (lv_at hl 1 rfl) ?_
  refine lv_aload_n hx hb dX4_instruction_6 rfl (lv_at hl 1 rfl) ?_
  refine va_get (D := D) (ci := 4) (v := .int w_pc) (C := RX4) (T := TX4) (N := 18) hx hb hws inlX4 hown hK hP 0 rfl rfl 7 (by decide) (hws _ mw_370) (fun _ h9 => h9) rfl dX4_instruction_7 ?_
  refine kc_Vi (wr := []) (As := [.int w_pc]) (rest := []) (fun u9 => (kX4 cB cI mo mb ma w_zf w_nf w_hf w_cf w_sp w_pc w_on w_wt w_ht w_bg w_cn w_al u9 w_ie w_ww w_th w_mm w_bs)) ⟨hx, hb, hml, hown, hws⟩ hK hP hD hS hA hT (c_X4_reads l D cB cI mo mb ma H.size w_zf w_nf w_hf w_cf w_sp w_pc w_on w_wt w_ht w_bg w_cn w_al w_cl w_ie w_ww w_th w_mm w_bs w_pc) (cwV 1 hws (gw_V mw_406 mw_407 mw_408 mw_5 mw_409) rfl rfl rfl hdX4_reads ⟨Nat.le_of_ble_eq_true rfl, Nat.le_of_ble_eq_true rfl⟩) [0, 1, 2] [] [0, 1] [0, 1, 2] rfl rfl rfl rfl (by decide) rfl (fun _ => rfl) rfl 0 rfl rfl rfl rfl hl.1 rfl (Nat.le_of_ble_eq_true rfl) dX4_instruction_10 ⟨Nat.zero_le _, Nat.zero_le _⟩ (fun r3 b1 H locs hw2 hP hD hS => ?_)
  have hP : va_P D vwCl (kX4 cB cI mo mb ma w_zf w_nf w_hf w_cf w_sp w_pc w_on w_wt w_ht w_bg w_cn w_al b1 w_ie w_ww w_th w_mm w_bs) H := hP
  have hD : va_D A (kX4 cB cI mo mb ma w_zf w_nf w_hf w_cf w_sp w_pc w_on w_wt w_ht w_bg w_cn w_al b1 w_ie w_ww w_th w_mm w_bs) := hD
  have hf := hf.trans (kE2 hw2)
  refine lv_istore_n (lv' := [(2, .int r3), (1, .int w_pc), (0, .ref mo)]) hx hb dX4_instruction_13 rfl hl (by decide) rfl (fun ls hl => ?_)
  refine lv_aload_n hx hb dX4_instruction_14 rfl (lv_at hl 2 rfl) ?_
  refine va_get (D := D) (ci := 4) (v := .int (bI w_bg)) (C := RX4) (T := TX4) (N := 18) hx hb hws inlX4 hown hK hP 0 rfl rfl 11 (by decide) (hws _ mw_405) (fun _ h9 => h9) rfl dX4_instruction_15 ?_
  obtain ⟨TJ7, hTJ7⟩ : ∃ T9 : Int32, T9 = (kIf (kEq (bI w_bg) (0 : Int32)) (kU1 (((w_pc + (1 : Int32)) &&& (65535 : Int32))) (fun (x5 : Int32) => x5)) w_pc) := ⟨_, rfl⟩
  have J7 : ∀ (b6 : Int32), b6 = TJ7 → ∀ (H : Heap) (locs : List Loc) (ls : Array Slot), lv_has ls 5 [(2, .int r3), (1, .int w_pc), (0, .ref mo)] → va_P D vwCl (kX4 cB cI mo mb ma w_zf w_nf w_hf w_cf w_sp b6 w_on w_wt w_ht w_bg w_cn w_al b1 w_ie w_ww w_th w_mm w_bs) H → va_D A (kX4 cB cI mo mb ma w_zf w_nf w_hf w_cf w_sp b6 w_on w_wt w_ht w_bg w_cn w_al b1 w_ie w_ww w_th w_mm w_bs) → va_S A s.heap H locs → W p l e (headSpec wwX4_instruction rmX4_instruction).room s m ([.ref mo] : List Value).toArray below meth c H locs 0 0 Q (F0 m 34 ls []) := by
    intro b6 eJ7 H locs ls hl hP hD hS
    have hf := hf.trans (kE1 (eJ7.trans hTJ7))
    refine lv_aload_n hx hb dX4_instruction_34 rfl (lv_at hl 2 rfl) ?_
    refine lv_iconst (v := 0) hx hb dX4_instruction_35 (by decide) ?_
    refine va_put (D := D) (ci := 4) (v := .int (bI false)) (ty := .boolean) (C := RX4) (T := TX4) (N := 18) hx hb hws inlX4 tyX4 tyX4_ok nmX4 hown hK hP hD hS 0 rfl rfl 11 (by decide) (hws _ mw_405) (fun _ h9 => h9) rfl (tyX4_ok 11 (by decide)) (bI_nar _) (bI_fit _) (Nat.le_of_ble_eq_true rfl) dX4_instruction_36 (fun H locs hP hD hS => ?_)
    have hP : va_P D vwCl (kX4 cB cI mo mb ma w_zf w_nf w_hf w_cf w_sp b6 w_on w_wt w_ht false w_cn w_al b1 w_ie w_ww w_th w_mm w_bs) H := hP
    have hD : va_D A (kX4 cB cI mo mb ma w_zf w_nf w_hf w_cf w_sp b6 w_on w_wt w_ht false w_cn w_al b1 w_ie w_ww w_th w_mm w_bs) := hD
    refine lv_iload_n hx hb dX4_instruction_39 rfl (lv_at hl 0 rfl) ?_
    refine lv_iconst (v := 3) hx hb dX4_instruction_40 (by decide) ?_
    refine lv_ishr hx hb dX4_instruction_41 ?_
    refine lv_bipush (v := 7) hx hb dX4_instruction_42 (by decide) ?_
    refine lv_iand hx hb dX4_instruction_44 ?_
    refine lv_topi (fun x8 ex8 => ?_)
    have hf := hf.trans (kE1 ex8)
    refine lv_istore_n (lv' := [(3, .int x8), (2, .int r3), (1, .int w_pc), (0, .ref mo)]) hx hb dX4_instruction_45 rfl hl (by decide) rfl (fun ls hl => ?_)
    refine lv_iload_n hx hb dX4_instruction_46 rfl (lv_at hl 1 rfl) ?_
    refine lv_bipush (v := 7) hx hb dX4_instruction_47 (by decide) ?_
    refine lv_iand hx hb dX4_instruction_49 ?_
    refine lv_topi (fun x9 ex9 => ?_)
    have hf := hf.trans (kE1 ex9)
    refine lv_istore (lv' := [(4, .int x9), (3, .int x8), (2, .int r3), (1, .int w_pc), (0, .ref mo)]) hx hb dX4_instruction_50 hl (by decide) rfl (fun ls hl => ?_)
    refine lv_iload_n hx hb dX4_instruction_52 rfl (lv_at hl 2 rfl) ?_
    refine lv_bipush (v := 6) hx hb dX4_instruction_53 (by decide) ?_
    refine lv_ishr hx hb dX4_instruction_55 ?_
    by_cases c10 : (r3 >>> ((6 : Int32) &&& (31 : Int32))) = (0 : Int32)
    · have hf := hf.trans (kt_eq c10)
      refine lv_tableIn (off := 28) (tgt := 84) hx hb dX4_instruction_56 (by rw [c10]; decide) (by rw [c10]; decide) (by rw [c10]; decide) (by decide) ?_
      refine lv_aload_n hx hb dX4_instruction_84 rfl (lv_at hl 4 rfl) ?_
      refine lv_iload_n hx hb dX4_instruction_85 rfl (lv_at hl 1 rfl) ?_
      refine lv_iload hx hb dX4_instruction_86 (lv_at hl 0 rfl) ?_
      refine kc_Vv (wr := []) (As := [.int x8, .int x9]) (rest := []) (fun u9 => (kX4 cB cI mo mb ma (u9.1) (u9.2.1) (u9.2.2.1) (u9.2.2.2.1) (u9.2.2.2.2.1) (u9.2.2.2.2.2.1) w_on w_wt w_ht false (u9.2.2.2.2.2.2.1) w_al (u9.2.2.2.2.2.2.2.1) w_ie w_ww w_th (u9.2.2.2.2.2.2.2.2.1) (u9.2.2.2.2.2.2.2.2.2))) ⟨hx, hb, hml, hown, hws⟩ hK hP hD hS hA hT (c_X4_first l D cB cI mo mb ma H.size w_zf w_nf w_hf w_cf w_sp b6 w_on w_wt w_ht false w_cn w_al b1 w_ie w_ww w_th w_mm w_bs x8 x9 (by rw [ex8]; exact (ki_7_8 _))) (cwV 2 hws (gw_V mw_410 mw_411 mw_412 mw_5 mw_413) rfl rfl rfl hdX4_first ⟨Nat.le_of_ble_eq_true rfl, Nat.le_of_ble_eq_true rfl⟩) [0, 1, 2] [] [0, 1] [0, 1, 2] rfl rfl rfl rfl (by decide) rfl (fun _ => rfl) rfl 0 rfl rfl rfl rfl hl.1 rfl (Nat.le_of_ble_eq_true rfl) dX4_instruction_88 ⟨Nat.zero_le _, Nat.zero_le _⟩ (fun u9 H locs hw21 hP hD hS => ?_)
      obtain ⟨b11, b12, b13, b14, b15, b16, b17, b18, b19, b20⟩ := u9
      have hP : va_P D vwCl (kX4 cB cI mo mb ma b11 b12 b13 b14 b15 b16 w_on w_wt w_ht false b17 w_al b18 w_ie w_ww w_th b19 b20) H := hP
      have hD : va_D A (kX4 cB cI mo mb ma b11 b12 b13 b14 b15 b16 w_on w_wt w_ht false b17 w_al b18 w_ie w_ww w_th b19 b20) := hD
      have hf := hf.trans (kE10 hw21)
      refine lv_goto (tgt := 143) hx hb dX4_instruction_91 (by decide) ?_
      rw [← hQ]
      exact W.vret hx hb hr (fun t ht hW => ⟨⟨(b11, b12, b13, b14, b15, b16, w_on, w_wt, w_ht, false, b17, b18, w_ie, b19, b20), rfl, hf.symm, by rw [ht]; exact hP, va_K.moved hW.alike hK, hD⟩, hS.F ht⟩) hS.2.2 dX4_instruction_143
    · have hf := hf.trans (kf_eq c10)
      by_cases c22 : (r3 >>> ((6 : Int32) &&& (31 : Int32))) = (1 : Int32)
      · have hf := hf.trans (kt_eq c22)
        refine lv_tableIn (off := 38) (tgt := 94) hx hb dX4_instruction_56 (by rw [c22]; decide) (by rw [c22]; decide) (by rw [c22]; decide) (by decide) ?_
        refine lv_iload_n hx hb dX4_instruction_94 rfl (lv_at hl 2 rfl) ?_
        refine lv_bipush (v := 118) hx hb dX4_instruction_95 (by decide) ?_
        refine lv_icmp_ne (tgt := 108) hx hb dX4_instruction_97 (by decide) (fun c23 => ?_) (fun c23 => ?_)
        · have hf := hf.trans (kf_eq c23)
          refine lv_aload_n hx hb dX4_instruction_108 rfl (lv_at hl 4 rfl) ?_
          refine lv_iload_n hx hb dX4_instruction_109 rfl (lv_at hl 1 rfl) ?_
          refine lv_aload_n hx hb dX4_instruction_110 rfl (lv_at hl 4 rfl) ?_
          refine lv_iload hx hb dX4_instruction_111 (lv_at hl 0 rfl) ?_
          refine kc_Vi (wr := []) (As := [.int x9]) (rest := [.int x8, .ref mo]) (fun u9 => (kX4 cB cI mo mb ma w_zf w_nf w_hf w_cf w_sp b6 w_on w_wt w_ht false w_cn w_al u9 w_ie w_ww w_th w_mm w_bs)) ⟨hx, hb, hml, hown, hws⟩ hK hP hD hS hA hT (c_X4_operand l D cB cI mo mb ma H.size w_zf w_nf w_hf w_cf w_sp b6 w_on w_wt w_ht false w_cn w_al b1 w_ie w_ww w_th w_mm w_bs x9 (by rw [ex9]; exact (ki_7_8 _))) (cwV 1 hws (gw_V mw_466 mw_467 mw_468 mw_5 mw_469) rfl rfl rfl hdX4_operand ⟨Nat.le_of_ble_eq_true rfl, Nat.le_of_ble_eq_true rfl⟩) [0, 1, 2] [] [0, 1] [0, 1, 2] rfl rfl rfl rfl (by decide) rfl (fun _ => rfl) rfl 0 rfl rfl rfl rfl hl.1 rfl (Nat.le_of_ble_eq_true rfl) dX4_instruction_113 ⟨Nat.zero_le _, Nat.zero_le _⟩ (fun r26 b24 H locs hw25 hP hD hS => ?_)
          have hP : va_P D vwCl (kX4 cB cI mo mb ma w_zf w_nf w_hf w_cf w_sp b6 w_on w_wt w_ht false w_cn w_al b24 w_ie w_ww w_th w_mm w_bs) H := hP
          have hD : va_D A (kX4 cB cI mo mb ma w_zf w_nf w_hf w_cf w_sp b6 w_on w_wt w_ht false w_cn w_al b24 w_ie w_ww w_th w_mm w_bs) := hD
          have hf := hf.trans (kE2 hw25)
          refine kc_Vv (wr := []) (As := [.int x8, .int r26]) (rest := []) (fun u9 => (kX4 cB cI mo mb ma w_zf w_nf w_hf w_cf w_sp b6 w_on w_wt w_ht false (u9.1) w_al (u9.2.1) w_ie w_ww w_th (u9.2.2.1) (u9.2.2.2))) ⟨hx, hb, hml, hown, hws⟩ hK hP hD hS hA hT (c_X4_setOperand l D cB cI mo mb ma H.size w_zf w_nf w_hf w_cf w_sp b6 w_on w_wt w_ht false w_cn w_al b24 w_ie w_ww w_th w_mm w_bs x8 r26 (by rw [ex8]; exact (ki_7_8 _))) (cwV 2 hws (gw_V mw_474 mw_475 mw_476 mw_5 mw_477) rfl rfl rfl hdX4_setOperand ⟨Nat.le_of_ble_eq_true rfl, Nat.le_of_ble_eq_true rfl⟩) [0, 1, 2] [] [0, 1] [0, 1, 2] rfl rfl rfl rfl (by decide) rfl (fun _ => rfl) rfl 0 rfl rfl rfl rfl hl.1 rfl (Nat.le_of_ble_eq_true rfl) dX4_instruction_116 ⟨Nat.zero_le _, Nat.zero_le _⟩ (fun u9 H locs hw31 hP hD hS => ?_)
          obtain ⟨b27, b28, b29, b30⟩ := u9
          have hP : va_P D vwCl (kX4 cB cI mo mb ma w_zf w_nf w_hf w_cf w_sp b6 w_on w_wt w_ht false b27 w_al b28 w_ie w_ww w_th b29 b30) H := hP
          have hD : va_D A (kX4 cB cI mo mb ma w_zf w_nf w_hf w_cf w_sp b6 w_on w_wt w_ht false b27 w_al b28 w_ie w_ww w_th b29 b30) := hD
          have hf := hf.trans (kE4 hw31)
          refine lv_goto (tgt := 143) hx hb dX4_instruction_119 (by decide) ?_
          rw [← hQ]
          exact W.vret hx hb hr (fun t ht hW => ⟨⟨(w_zf, w_nf, w_hf, w_cf, w_sp, b6, w_on, w_wt, w_ht, false, b27, b28, w_ie, b29, b30), rfl, hf.symm, by rw [ht]; exact hP, va_K.moved hW.alike hK, hD⟩, hS.F ht⟩) hS.2.2 dX4_instruction_143
        · have hf := hf.trans (kt_eq c23)
          refine lv_aload_n hx hb dX4_instruction_100 rfl (lv_at hl 4 rfl) ?_
          refine lv_iload_n hx hb dX4_instruction_101 rfl (lv_at hl 3 rfl) ?_
          refine kc_Vv (wr := []) (As := [.int w_pc]) (rest := []) (fun u9 => (kX4 cB cI mo mb ma w_zf w_nf w_hf w_cf w_sp (u9.1) w_on w_wt (u9.2.1) (u9.2.2) w_cn w_al b1 w_ie w_ww w_th w_mm w_bs)) ⟨hx, hb, hml, hown, hws⟩ hK hP hD hS hA hT (c_X4_halts l D cB cI mo mb ma H.size w_zf w_nf w_hf w_cf w_sp b6 w_on w_wt w_ht false w_cn w_al b1 w_ie w_ww w_th w_mm w_bs w_pc) (cwV 1 hws (gw_V mw_494 mw_495 mw_496 mw_5 mw_497) rfl rfl rfl hdX4_halts ⟨Nat.le_of_ble_eq_true rfl, Nat.le_of_ble_eq_true rfl⟩) [0, 1, 2] [] [0, 1] [0, 1, 2] rfl rfl rfl rfl (by decide) rfl (fun _ => rfl) rfl 0 rfl rfl rfl rfl hl.1 rfl (Nat.le_of_ble_eq_true rfl) dX4_instruction_102 ⟨Nat.zero_le _, Nat.zero_le _⟩ (fun u9 H locs hw35 hP hD hS => ?_)
          obtain ⟨b32, b33, b34⟩ := u9
          have hP : va_P D vwCl (kX4 cB cI mo mb ma w_zf w_nf w_hf w_cf w_sp b32 w_on w_wt b33 b34 w_cn w_al b1 w_ie w_ww w_th w_mm w_bs) H := hP
          have hD : va_D A (kX4 cB cI mo mb ma w_zf w_nf w_hf w_cf w_sp b32 w_on w_wt b33 b34 w_cn w_al b1 w_ie w_ww w_th w_mm w_bs) := hD
          have hf := hf.trans (kE3 hw35)
          refine lv_goto (tgt := 143) hx hb dX4_instruction_105 (by decide) ?_
          rw [← hQ]
          exact W.vret hx hb hr (fun t ht hW => ⟨⟨(w_zf, w_nf, w_hf, w_cf, w_sp, b32, w_on, w_wt, b33, b34, w_cn, b1, w_ie, w_mm, w_bs), rfl, hf.symm, by rw [ht]; exact hP, va_K.moved hW.alike hK, hD⟩, hS.F ht⟩) hS.2.2 dX4_instruction_143
      · have hf := hf.trans (kf_eq c22)
        by_cases c36 : (r3 >>> ((6 : Int32) &&& (31 : Int32))) = (2 : Int32)
        · have hf := hf.trans (kt_eq c36)
          refine lv_tableIn (off := 66) (tgt := 122) hx hb dX4_instruction_56 (by rw [c36]; decide) (by rw [c36]; decide) (by rw [c36]; decide) (by decide) ?_
          refine lv_aload_n hx hb dX4_instruction_122 rfl (lv_at hl 4 rfl) ?_
          refine lv_iload_n hx hb dX4_instruction_123 rfl (lv_at hl 1 rfl) ?_
          refine lv_aload_n hx hb dX4_instruction_124 rfl (lv_at hl 4 rfl) ?_
          refine lv_iload hx hb dX4_instruction_125 (lv_at hl 0 rfl) ?_
          refine kc_Vi (wr := []) (As := [.int x9]) (rest := [.int x8, .ref mo]) (fun u9 => (kX4 cB cI mo mb ma w_zf w_nf w_hf w_cf w_sp b6 w_on w_wt w_ht false w_cn w_al u9 w_ie w_ww w_th w_mm w_bs)) ⟨hx, hb, hml, hown, hws⟩ hK hP hD hS hA hT (c_X4_operand l D cB cI mo mb ma H.size w_zf w_nf w_hf w_cf w_sp b6 w_on w_wt w_ht false w_cn w_al b1 w_ie w_ww w_th w_mm w_bs x9 (by rw [ex9]; exact (ki_7_8 _))) (cwV 1 hws (gw_V mw_466 mw_467 mw_468 mw_5 mw_469) rfl rfl rfl hdX4_operand ⟨Nat.le_of_ble_eq_true rfl, Nat.le_of_ble_eq_true rfl⟩) [0, 1, 2] [] [0, 1] [0, 1, 2] rfl rfl rfl rfl (by decide) rfl (fun _ => rfl) rfl 0 rfl rfl rfl rfl hl.1 rfl (Nat.le_of_ble_eq_true rfl) dX4_instruction_127 ⟨Nat.zero_le _, Nat.zero_le _⟩ (fun r39 b37 H locs hw38 hP hD hS => ?_)
          have hP : va_P D vwCl (kX4 cB cI mo mb ma w_zf w_nf w_hf w_cf w_sp b6 w_on w_wt w_ht false w_cn w_al b37 w_ie w_ww w_th w_mm w_bs) H := hP
          have hD : va_D A (kX4 cB cI mo mb ma w_zf w_nf w_hf w_cf w_sp b6 w_on w_wt w_ht false w_cn w_al b37 w_ie w_ww w_th w_mm w_bs) := hD
          have hf := hf.trans (kE2 hw38)
          refine kc_Vv (wr := []) (As := [.int x8, .int r39]) (rest := []) (fun u9 => (kX4 cB cI mo mb ma (u9.1) (u9.2.1) (u9.2.2.1) (u9.2.2.2.1) w_sp b6 w_on w_wt w_ht false w_cn w_al b37 w_ie w_ww w_th w_mm (u9.2.2.2.2))) ⟨hx, hb, hml, hown, hws⟩ hK hP hD hS hA hT (c_X4_sums l D cB cI mo mb ma H.size w_zf w_nf w_hf w_cf w_sp b6 w_on w_wt w_ht false w_cn w_al b37 w_ie w_ww w_th w_mm w_bs x8 r39) (cwV 2 hws (gw_V mw_498 mw_499 mw_500 mw_5 mw_501) rfl rfl rfl hdX4_sums ⟨Nat.le_of_ble_eq_true rfl, Nat.le_of_ble_eq_true rfl⟩) [0, 1, 2] [] [0, 1] [0, 1, 2] rfl rfl rfl rfl (by decide) rfl (fun _ => rfl) rfl 0 rfl rfl rfl rfl hl.1 rfl (Nat.le_of_ble_eq_true rfl) dX4_instruction_130 ⟨Nat.zero_le _, Nat.zero_le _⟩ (fun u9 H locs hw45 hP hD hS => ?_)
          obtain ⟨b40, b41, b42, b43, b44⟩ := u9
          have hP : va_P D vwCl (kX4 cB cI mo mb ma b40 b41 b42 b43 w_sp b6 w_on w_wt w_ht false w_cn w_al b37 w_ie w_ww w_th w_mm b44) H := hP
          have hD : va_D A (kX4 cB cI mo mb ma b40 b41 b42 b43 w_sp b6 w_on w_wt w_ht false w_cn w_al b37 w_ie w_ww w_th w_mm b44) := hD
          have hf := hf.trans (kE5 hw45)
          refine lv_goto (tgt := 143) hx hb dX4_instruction_133 (by decide) ?_
          rw [← hQ]
          exact W.vret hx hb hr (fun t ht hW => ⟨⟨(b40, b41, b42, b43, w_sp, b6, w_on, w_wt, w_ht, false, w_cn, b37, w_ie, w_mm, b44), rfl, hf.symm, by rw [ht]; exact hP, va_K.moved hW.alike hK, hD⟩, hS.F ht⟩) hS.2.2 dX4_instruction_143
        · have hf := hf.trans (kf_eq c36)
          refine lv_tableOut (tgt := 136) hx hb dX4_instruction_56 (by have n0 := lv_neT c10 (a := 0) rfl; have n1 := lv_neT c22 (a := 1) rfl; have n2 := lv_neT c36 (a := 2) rfl; omega) (by decide) ?_
          refine lv_aload_n hx hb dX4_instruction_136 rfl (lv_at hl 4 rfl) ?_
          refine lv_iload_n hx hb dX4_instruction_137 rfl (lv_at hl 1 rfl) ?_
          refine lv_iload hx hb dX4_instruction_138 (lv_at hl 0 rfl) ?_
          refine kc_Vv (wr := []) (As := [.int x8, .int x9]) (rest := []) (fun u9 => (kX4 cB cI mo mb ma (u9.1) (u9.2.1) (u9.2.2.1) (u9.2.2.2.1) (u9.2.2.2.2.1) (u9.2.2.2.2.2.1) (u9.2.2.2.2.2.2.1) (u9.2.2.2.2.2.2.2.1) w_ht false (u9.2.2.2.2.2.2.2.2.1) w_al (u9.2.2.2.2.2.2.2.2.2.1) (u9.2.2.2.2.2.2.2.2.2.2.1) w_ww w_th (u9.2.2.2.2.2.2.2.2.2.2.2.1) (u9.2.2.2.2.2.2.2.2.2.2.2.2))) ⟨hx, hb, hml, hown, hws⟩ hK hP hD hS hA hT (c_X4_last l D cB cI mo mb ma H.size w_zf w_nf w_hf w_cf w_sp b6 w_on w_wt w_ht false w_cn w_al b1 w_ie w_ww w_th w_mm w_bs x8 x9 (by rw [ex8]; exact (ki_7_8 _))) (cwV 2 hws (gw_V mw_510 mw_511 mw_512 mw_5 mw_513) rfl rfl rfl hdX4_last ⟨Nat.le_of_ble_eq_true rfl, Nat.le_of_ble_eq_true rfl⟩) [0, 1, 2] [] [0, 1] [0, 1, 2] rfl rfl rfl rfl (by decide) rfl (fun _ => rfl) rfl 0 rfl rfl rfl rfl hl.1 rfl (Nat.le_of_ble_eq_true rfl) dX4_instruction_140 ⟨Nat.zero_le _, Nat.zero_le _⟩ (fun u9 H locs hw59 hP hD hS => ?_)
          obtain ⟨b46, b47, b48, b49, b50, b51, b52, b53, b54, b55, b56, b57, b58⟩ := u9
          have hP : va_P D vwCl (kX4 cB cI mo mb ma b46 b47 b48 b49 b50 b51 b52 b53 w_ht false b54 w_al b55 b56 w_ww w_th b57 b58) H := hP
          have hD : va_D A (kX4 cB cI mo mb ma b46 b47 b48 b49 b50 b51 b52 b53 w_ht false b54 w_al b55 b56 w_ww w_th b57 b58) := hD
          have hf := hf.trans (kE13 hw59)
          rw [← hQ]
          exact W.vret hx hb hr (fun t ht hW => ⟨⟨(b46, b47, b48, b49, b50, b51, b52, b53, w_ht, false, b54, b55, b56, b57, b58), rfl, hf.symm, by rw [ht]; exact hP, va_K.moved hW.alike hK, hD⟩, hS.F ht⟩) hS.2.2 dX4_instruction_143
  have hf := hTJ7
  refine lv_if_ne (tgt := 34) hx hb dX4_instruction_18 (by decide) (fun c4 => ?_) (fun c4 => ?_)
  · have hf := hf.trans (kf_eq c4)
    exact J7 w_pc hf.symm H locs ls (lv_sub hl [0, 1, 2] rfl) hP hD hS
  · have hf := hf.trans (kt_eq c4)
    refine lv_aload_n hx hb dX4_instruction_21 rfl (lv_at hl 2 rfl) ?_
    refine lv_aload_n hx hb dX4_instruction_22 rfl (lv_at hl 2 rfl) ?_
    refine va_get (D := D) (ci := 4) (v := .int w_pc) (C := RX4) (T := TX4) (N := 18) hx hb hws inlX4 hown hK hP 0 rfl rfl 7 (by decide) (hws _ mw_370) (fun _ h9 => h9) rfl dX4_instruction_23 ?_
    refine lv_iconst (v := 1) hx hb dX4_instruction_26 (by decide) ?_
    refine lv_iadd hx hb dX4_instruction_27 ?_
    refine lv_ldc (v := 65535) hx hb hown (hws _ mw_61) dX4_instruction_28 ?_
    refine lv_iand hx hb dX4_instruction_30 ?_
    refine lv_topi (fun x5 ex5 => ?_)
    have hf := hf.trans (kE1 ex5)
    refine va_put (D := D) (ci := 4) (v := .int x5) (ty := .int) (C := RX4) (T := TX4) (N := 18) hx hb hws inlX4 tyX4 tyX4_ok nmX4 hown hK hP hD hS 0 rfl rfl 7 (by decide) (hws _ mw_370) (fun _ h9 => h9) rfl (tyX4_ok 7 (by decide)) rfl rfl (Nat.le_of_ble_eq_true rfl) dX4_instruction_31 (fun H locs hP hD hS => ?_)
    have hP : va_P D vwCl (kX4 cB cI mo mb ma w_zf w_nf w_hf w_cf w_sp x5 w_on w_wt w_ht w_bg w_cn w_al b1 w_ie w_ww w_th w_mm w_bs) H := hP
    have hD : va_D A (kX4 cB cI mo mb ma w_zf w_nf w_hf w_cf w_sp x5 w_on w_wt w_ht w_bg w_cn w_al b1 w_ie w_ww w_th w_mm w_bs) := hD
    exact J7 x5 hf.symm H locs ls (lv_sub hl [0, 1, 2] rfl) hP hD hS
def fX4_dispatch_L (w_sp : Int32) (w_pc : Int32) (w_cn : Int32) (w_mm : Nat → Int32) (a1 : Int32) (q9 : Int32) : (Int32) ⊕ (Int32 × Int32 × Bool × Bool × Int32 × Int32 × (Nat → Int32)) := kU1 q9 (fun (x1 : Int32) => (kIf (kEq ((a1 >>> (x1 &&& (31 : Int32))) &&& (1 : Int32)) (0 : Int32)) (kU1 (x1 + (1 : Int32)) (fun (x13 : Int32) => Sum.inl x13)) (kU1 (fX4_at w_mm (65295 : Int32)) (fun (r4 : Int32) => (kU1 (fX4_puts w_mm (65295 : Int32) (r4 &&& (((1 : Int32) <<< (x1 &&& (31 : Int32))) ^^^ (-1 : Int32)))) (fun (b5 : Nat → Int32) => (kU4 (fX4_push w_sp w_cn (3 : Int32) b5 w_pc) (fun (b7 : Int32) (b8 : Int32) (b9 : Int32) (b10 : Nat → Int32) => (kU1 (((64 : Int32) + ((8 : Int32) * x1))) (fun (x12 : Int32) => (Sum.inr (b7, x12, false, false, b8, b9, b10))))))))))))
def fX4_dispatch (w_sp : Int32) (w_pc : Int32) (w_on : Bool) (w_ht : Bool) (w_cn : Int32) (w_cl : Int32) (w_mm : Nat → Int32) (a1 : Int32) : Int32 × Int32 × Bool × Bool × Int32 × Int32 × (Nat → Int32) := (kIt (fX4_dispatch_L w_sp w_pc w_cn w_mm a1) (w_sp, w_pc, w_on, w_ht, w_cn, w_cl, w_mm) 6 (0 : Int32))
def rmX4_dispatch : Room := { frames := 3, cells := 0, slots := 0, locals := 65 }
def wwX4_dispatch : List Cond := Cond.code yX4_dispatch cX4_dispatch 3 none :: wsL_law
theorem hdX4_dispatch : yX4_dispatch.cls = RX4 ∧ yX4_dispatch.cls ≠ "java/lang/invoke/MethodHandle" ∧ yX4_dispatch.cls ≠ "java/lang/invoke/VarHandle" ∧ (parseMethodDescriptor yX4_dispatch.desc).map (fun d => d.parameters.length) = some 1 := by decide +kernel
set_option maxHeartbeats 4000000 in
set_option maxRecDepth 100000 in
theorem c_X4_dispatch (l : Launch) (D : va_G) (cB : ClassId) (cI : ClassId) (mo mb ma sz : Nat) (w_zf : Bool) (w_nf : Bool) (w_hf : Bool) (w_cf : Bool) (w_sp : Int32) (w_pc : Int32) (w_on : Bool) (w_wt : Bool) (w_ht : Bool) (w_bg : Bool) (w_cn : Int32) (w_al : Int32) (w_cl : Int32) (w_ie : Bool) (w_ww : Bool) (w_th : Int32) (w_mm : Nat → Int32) (w_bs : Nat → Int32) (a1 : Int32) (hpre1 : ∃ q : Nat, a1 = nI q ∧ 0 < q ∧ q < 32) : Met l yX4_dispatch wwX4_dispatch rmX4_dispatch (va_Pc [.ref mo, .int a1] (kp D (kX4 cB cI mo mb ma w_zf w_nf w_hf w_cf w_sp w_pc w_on w_wt w_ht w_bg w_cn w_al w_cl w_ie w_ww w_th w_mm w_bs) [(cB, .byte), (cI, .int)] sz)) (va_Qv (fun (u9 : Int32 × Int32 × Bool × Bool × Int32 × Int32 × (Nat → Int32)) => u9 = fX4_dispatch w_sp w_pc w_on w_ht w_cn w_cl w_mm a1) (fun u9 t => kq D (kX4 cB cI mo mb ma w_zf w_nf w_hf w_cf (u9.1) (u9.2.1) (u9.2.2.1) w_wt (u9.2.2.2.1) w_bg (u9.2.2.2.2.1) w_al (u9.2.2.2.2.2.1) w_ie w_ww w_th (u9.2.2.2.2.2.2) w_bs) [(cB, .byte), (cI, .int)] (va_A (kX4 cB cI mo mb ma w_zf w_nf w_hf w_cf w_sp w_pc w_on w_wt w_ht w_bg w_cn w_al w_cl w_ie w_ww w_th w_mm w_bs) sz) t) (va_A (kX4 cB cI mo mb ma w_zf w_nf w_hf w_cf w_sp w_pc w_on w_wt w_ht w_bg w_cn w_al w_cl w_ie w_ww w_th w_mm w_bs) sz)) 0 0 (va_A (kX4 cB cI mo mb ma w_zf w_nf w_hf w_cf w_sp w_pc w_on w_wt w_ht w_bg w_cn w_al w_cl w_ie w_ww w_th w_mm w_bs) sz) := by
  refine Met.ofW (cc := cX4_dispatch) (maxL := 3) (ret := none) (by decide) rfl ?_
  intro p e s m args below meth c s₁ B hml hv
  obtain ⟨rfl, hsz, hP, hK, hD0, hT⟩ := hv
  have hx := B.exec
  have hb := B.bytes
  have hr := B.returns
  have hts := atoms_spec (ws := wwX4_dispatch) B.pre
  have hws : ∀ w ∈ wsL_law, w.before _ s = true := fun w h => hts w (List.mem_cons_of_mem _ h)
  have hown : s.vm.findClass RX4 = some m.cls := findClass_of_methodNamed B.named
  have hlocks := B.notSynchronized
  subst hsz
  have hD := hD0.self (sz := s.heap.size)
  generalize hAe : va_A (kX4 cB cI mo mb ma w_zf w_nf w_hf w_cf w_sp w_pc w_on w_wt w_ht w_bg w_cn w_al w_cl w_ie w_ww w_th w_mm w_bs) s.heap.size = A at hD hT ⊢
  have hA : ∀ q : Nat, s.heap.size ≤ q → A q := fun q h => by rw [← hAe]; exact Or.inr h
  have hS : va_S A s.heap s.heap [] := va_S.rf
  have hl := lv_entry ([.ref mo, .int a1]) (n := 3) (Nat.le_of_ble_eq_true rfl)
  rw [lg_entry_eq]
  generalize (lg_sl ([.ref mo, .int a1]) ++ List.replicate (3 - (lg_sl ([.ref mo, .int a1])).length) Slot.unset).toArray = ls at hl ⊢
  have hl : lv_has ls 3 [(0, .ref mo), (1, .int a1)] := hl
  generalize hQ : MQ _ _ _ _ _ _ _ = Q
  obtain ⟨H, hHe⟩ : ∃ H : Heap, H = s.heap := ⟨_, rfl⟩
  obtain ⟨locs, hle⟩ : ∃ L : List Loc, L = [] := ⟨_, rfl⟩
  have hP : va_P D vwCl (kX4 cB cI mo mb ma w_zf w_nf w_hf w_cf w_sp w_pc w_on w_wt w_ht w_bg w_cn w_al w_cl w_ie w_ww w_th w_mm w_bs) H := by rw [hHe]; exact hP
  have hS : va_S A s.heap H locs := by rw [hHe, hle]; exact hS
  refine kw_start hHe.symm hle.symm ?_
  have hf : fX4_dispatch w_sp w_pc w_on w_ht w_cn w_cl w_mm a1 = fX4_dispatch w_sp w_pc w_on w_ht w_cn w_cl w_mm a1 := rfl
  refine lv_iconst (v := 0) hx hb dX4_dispatch_0 (by decide) ?_
  refine lv_istore_n (lv' := [(2, .int (0 : Int32)), (0, .ref mo), (1, .int a1)]) hx hb dX4_dispatch_1 rfl hl (by decide) rfl (fun ls hl => ?_)
  have hLp : ∀ (n9 : Nat) (x1 : Int32), kTd a1 x1 n9 → fX4_dispatch w_sp w_pc w_on w_ht w_cn w_cl w_mm a1 = kIt (fX4_dispatch_L w_sp w_pc w_cn w_mm a1) (w_sp, w_pc, w_on, w_ht, w_cn, w_cl, w_mm) n9 x1 → ∀ (H : Heap) (locs : List Loc) (ls : Array Slot), lv_has ls 3 [(2, .int x1), (0, .ref mo), (1, .int a1)] → va_P D vwCl (kX4 cB cI mo mb ma w_zf w_nf w_hf w_cf w_sp w_pc w_on w_wt w_ht w_bg w_cn w_al w_cl w_ie w_ww w_th w_mm w_bs) H → va_D A (kX4 cB cI mo mb ma w_zf w_nf w_hf w_cf w_sp w_pc w_on w_wt w_ht w_bg w_cn w_al w_cl w_ie w_ww w_th w_mm w_bs) → va_S A s.heap H locs → W p l e (headSpec wwX4_dispatch rmX4_dispatch).room s m ([.ref mo, .int a1] : List Value).toArray below meth c H locs 0 0 Q (F0 m 2 ls []) := by
    intro n9
    induction n9 with
    | zero => intro x1 ht9 hF H locs ls hl hP hD hS; exact absurd ht9 (kTd_0 hpre1)
    | succ n9 ih =>
      intro x1 ht9 hF H locs ls hl hP hD hS
      have hf : fX4_dispatch_L w_sp w_pc w_cn w_mm a1 x1 = _ := kE1 rfl
      refine lv_iload_n hx hb dX4_dispatch_2 rfl (lv_at hl 2 rfl) ?_
      refine lv_iload_n hx hb dX4_dispatch_3 rfl (lv_at hl 0 rfl) ?_
      refine lv_ishr hx hb dX4_dispatch_4 ?_
      refine lv_iconst (v := 1) hx hb dX4_dispatch_5 (by decide) ?_
      refine lv_iand hx hb dX4_dispatch_6 ?_
      refine lv_if_ne (tgt := 16) hx hb dX4_dispatch_7 (by decide) (fun c2 => ?_) (fun c2 => ?_)
      · have hf := hf.trans (kf_eq c2)
        refine lv_aload_n hx hb dX4_dispatch_16 rfl (lv_at hl 1 rfl) ?_
        refine lv_iconst (v := 0) hx hb dX4_dispatch_17 (by decide) ?_
        refine va_put (D := D) (ci := 4) (v := .int (bI false)) (ty := .boolean) (C := RX4) (T := TX4) (N := 18) hx hb hws inlX4 tyX4 tyX4_ok nmX4 hown hK hP hD hS 0 rfl rfl 8 (by decide) (hws _ mw_368) (fun _ h9 => h9) rfl (tyX4_ok 8 (by decide)) (bI_nar _) (bI_fit _) (Nat.le_of_ble_eq_true rfl) dX4_dispatch_18 (fun H locs hP hD hS => ?_)
        have hP : va_P D vwCl (kX4 cB cI mo mb ma w_zf w_nf w_hf w_cf w_sp w_pc false w_wt w_ht w_bg w_cn w_al w_cl w_ie w_ww w_th w_mm w_bs) H := hP
        have hD : va_D A (kX4 cB cI mo mb ma w_zf w_nf w_hf w_cf w_sp w_pc false w_wt w_ht w_bg w_cn w_al w_cl w_ie w_ww w_th w_mm w_bs) := hD
        refine lv_aload_n hx hb dX4_dispatch_21 rfl (lv_at hl 1 rfl) ?_
        refine lv_iconst (v := 0) hx hb dX4_dispatch_22 (by decide) ?_
        refine va_put (D := D) (ci := 4) (v := .int (bI false)) (ty := .boolean) (C := RX4) (T := TX4) (N := 18) hx hb hws inlX4 tyX4 tyX4_ok nmX4 hown hK hP hD hS 0 rfl rfl 10 (by decide) (hws _ mw_369) (fun _ h9 => h9) rfl (tyX4_ok 10 (by decide)) (bI_nar _) (bI_fit _) (Nat.le_of_ble_eq_true rfl) dX4_dispatch_23 (fun H locs hP hD hS => ?_)
        have hP : va_P D vwCl (kX4 cB cI mo mb ma w_zf w_nf w_hf w_cf w_sp w_pc false w_wt false w_bg w_cn w_al w_cl w_ie w_ww w_th w_mm w_bs) H := hP
        have hD : va_D A (kX4 cB cI mo mb ma w_zf w_nf w_hf w_cf w_sp w_pc false w_wt false w_bg w_cn w_al w_cl w_ie w_ww w_th w_mm w_bs) := hD
        refine lv_aload_n hx hb dX4_dispatch_26 rfl (lv_at hl 1 rfl) ?_
        refine lv_ldc (v := 65295) hx hb hown (hws _ mw_366) dX4_dispatch_27 ?_
        refine lv_aload_n hx hb dX4_dispatch_29 rfl (lv_at hl 1 rfl) ?_
        refine lv_ldc (v := 65295) hx hb hown (hws _ mw_366) dX4_dispatch_30 ?_
        refine kc_Vi (wr := []) (As := [.int (65295 : Int32)]) (rest := [.int (65295 : Int32), .ref mo]) (fun _ => (kX4 cB cI mo mb ma w_zf w_nf w_hf w_cf w_sp w_pc false w_wt false w_bg w_cn w_al w_cl w_ie w_ww w_th w_mm w_bs)) ⟨hx, hb, hml, hown, hws⟩ hK hP hD hS hA hT (c_X4_at l D cB cI mo mb ma H.size w_zf w_nf w_hf w_cf w_sp w_pc false w_wt false w_bg w_cn w_al w_cl w_ie w_ww w_th w_mm w_bs (65295 : Int32)) (cwV 1 hws (gw_V mw_93 mw_94 mw_95 mw_5 mw_96) rfl rfl rfl hdX4_at ⟨Nat.le_of_ble_eq_true rfl, Nat.le_of_ble_eq_true rfl⟩) [0, 1, 2] [] [0, 1] [0, 1, 2] rfl rfl rfl rfl (by decide) rfl (fun _ => rfl) rfl 0 rfl rfl rfl rfl hl.1 rfl (Nat.le_of_ble_eq_true rfl) dX4_dispatch_32 ⟨Nat.zero_le _, Nat.zero_le _⟩ (fun r4 _ H locs hw3 hP hD hS => ?_)
        have hP : va_P D vwCl (kX4 cB cI mo mb ma w_zf w_nf w_hf w_cf w_sp w_pc false w_wt false w_bg w_cn w_al w_cl w_ie w_ww w_th w_mm w_bs) H := hP
        have hD : va_D A (kX4 cB cI mo mb ma w_zf w_nf w_hf w_cf w_sp w_pc false w_wt false w_bg w_cn w_al w_cl w_ie w_ww w_th w_mm w_bs) := hD
        have hf := hf.trans (kE1 hw3)
        refine lv_iconst (v := 1) hx hb dX4_dispatch_35 (by decide) ?_
        refine lv_iload_n hx hb dX4_dispatch_36 rfl (lv_at hl 0 rfl) ?_
        refine lv_ishl hx hb dX4_dispatch_37 ?_
        refine lv_iconst (v := -1) hx hb dX4_dispatch_38 (by decide) ?_
        refine lv_ixor hx hb dX4_dispatch_39 ?_
        refine lv_iand hx hb dX4_dispatch_40 ?_
        refine kc_Vv (wr := []) (As := [.int (65295 : Int32), .int (r4 &&& (((1 : Int32) <<< (x1 &&& (31 : Int32))) ^^^ (-1 : Int32)))]) (rest := []) (fun u9 => (kX4 cB cI mo mb ma w_zf w_nf w_hf w_cf w_sp w_pc false w_wt false w_bg w_cn w_al w_cl w_ie w_ww w_th u9 w_bs)) ⟨hx, hb, hml, hown, hws⟩ hK hP hD hS hA hT (c_X4_puts l D cB cI mo mb ma H.size w_zf w_nf w_hf w_cf w_sp w_pc false w_wt false w_bg w_cn w_al w_cl w_ie w_ww w_th w_mm w_bs (65295 : Int32) (r4 &&& (((1 : Int32) <<< (x1 &&& (31 : Int32))) ^^^ (-1 : Int32)))) (cwV 2 hws (gw_V mw_62 mw_63 mw_64 mw_5 mw_65) rfl rfl rfl hdX4_puts ⟨Nat.le_of_ble_eq_true rfl, Nat.le_of_ble_eq_true rfl⟩) [0, 1, 2] [] [0, 1] [0, 1, 2] rfl rfl rfl rfl (by decide) rfl (fun _ => rfl) rfl 0 rfl rfl rfl rfl hl.1 rfl (Nat.le_of_ble_eq_true rfl) dX4_dispatch_41 ⟨Nat.zero_le _, Nat.zero_le _⟩ (fun b5 H locs hw6 hP hD hS => ?_)
        have hP : va_P D vwCl (kX4 cB cI mo mb ma w_zf w_nf w_hf w_cf w_sp w_pc false w_wt false w_bg w_cn w_al w_cl w_ie w_ww w_th b5 w_bs) H := hP
        have hD : va_D A (kX4 cB cI mo mb ma w_zf w_nf w_hf w_cf w_sp w_pc false w_wt false w_bg w_cn w_al w_cl w_ie w_ww w_th b5 w_bs) := hD
        have hf := hf.trans (kE1 hw6)
        refine lv_aload_n hx hb dX4_dispatch_44 rfl (lv_at hl 1 rfl) ?_
        refine lv_iconst (v := 3) hx hb dX4_dispatch_45 (by decide) ?_
        refine va_put (D := D) (ci := 4) (v := .int (3 : Int32)) (ty := .int) (C := RX4) (T := TX4) (N := 18) hx hb hws inlX4 tyX4 tyX4_ok nmX4 hown hK hP hD hS 0 rfl rfl 14 (by decide) (hws _ mw_367) (fun _ h9 => h9) rfl (tyX4_ok 14 (by decide)) rfl rfl (Nat.le_of_ble_eq_true rfl) dX4_dispatch_46 (fun H locs hP hD hS => ?_)
        have hP : va_P D vwCl (kX4 cB cI mo mb ma w_zf w_nf w_hf w_cf w_sp w_pc false w_wt false w_bg w_cn w_al (3 : Int32) w_ie w_ww w_th b5 w_bs) H := hP
        have hD : va_D A (kX4 cB cI mo mb ma w_zf w_nf w_hf w_cf w_sp w_pc false w_wt false w_bg w_cn w_al (3 : Int32) w_ie w_ww w_th b5 w_bs) := hD
        refine lv_aload_n hx hb dX4_dispatch_49 rfl (lv_at hl 1 rfl) ?_
        refine lv_aload_n hx hb dX4_dispatch_50 rfl (lv_at hl 1 rfl) ?_
        refine va_get (D := D) (ci := 4) (v := .int w_pc) (C := RX4) (T := TX4) (N := 18) hx hb hws inlX4 hown hK hP 0 rfl rfl 7 (by decide) (hws _ mw_370) (fun _ h9 => h9) rfl dX4_dispatch_51 ?_
        refine kc_Vv (wr := []) (As := [.int w_pc]) (rest := []) (fun u9 => (kX4 cB cI mo mb ma w_zf w_nf w_hf w_cf (u9.1) w_pc false w_wt false w_bg (u9.2.1) w_al (u9.2.2.1) w_ie w_ww w_th (u9.2.2.2) w_bs)) ⟨hx, hb, hml, hown, hws⟩ hK hP hD hS hA hT (c_X4_push l D cB cI mo mb ma H.size w_zf w_nf w_hf w_cf w_sp w_pc false w_wt false w_bg w_cn w_al (3 : Int32) w_ie w_ww w_th b5 w_bs w_pc) (cwV 1 hws (gw_V mw_378 mw_379 mw_380 mw_5 mw_381) rfl rfl rfl hdX4_push ⟨Nat.le_of_ble_eq_true rfl, Nat.le_of_ble_eq_true rfl⟩) [0, 1, 2] [] [0, 1] [0, 1, 2] rfl rfl rfl rfl (by decide) rfl (fun _ => rfl) rfl 0 rfl rfl rfl rfl hl.1 rfl (Nat.le_of_ble_eq_true rfl) dX4_dispatch_54 ⟨Nat.zero_le _, Nat.zero_le _⟩ (fun u9 H locs hw11 hP hD hS => ?_)
        obtain ⟨b7, b8, b9, b10⟩ := u9
        have hP : va_P D vwCl (kX4 cB cI mo mb ma w_zf w_nf w_hf w_cf b7 w_pc false w_wt false w_bg b8 w_al b9 w_ie w_ww w_th b10 w_bs) H := hP
        have hD : va_D A (kX4 cB cI mo mb ma w_zf w_nf w_hf w_cf b7 w_pc false w_wt false w_bg b8 w_al b9 w_ie w_ww w_th b10 w_bs) := hD
        have hf := hf.trans (kE4 hw11)
        refine lv_aload_n hx hb dX4_dispatch_57 rfl (lv_at hl 1 rfl) ?_
        refine lv_bipush (v := 64) hx hb dX4_dispatch_58 (by decide) ?_
        refine lv_bipush (v := 8) hx hb dX4_dispatch_60 (by decide) ?_
        refine lv_iload_n hx hb dX4_dispatch_62 rfl (lv_at hl 0 rfl) ?_
        refine lv_imul hx hb dX4_dispatch_63 ?_
        refine lv_iadd hx hb dX4_dispatch_64 ?_
        refine lv_topi (fun x12 ex12 => ?_)
        have hf := hf.trans (kE1 ex12)
        refine va_put (D := D) (ci := 4) (v := .int x12) (ty := .int) (C := RX4) (T := TX4) (N := 18) hx hb hws inlX4 tyX4 tyX4_ok nmX4 hown hK hP hD hS 0 rfl rfl 7 (by decide) (hws _ mw_370) (fun _ h9 => h9) rfl (tyX4_ok 7 (by decide)) rfl rfl (Nat.le_of_ble_eq_true rfl) dX4_dispatch_65 (fun H locs hP hD hS => ?_)
        have hP : va_P D vwCl (kX4 cB cI mo mb ma w_zf w_nf w_hf w_cf b7 x12 false w_wt false w_bg b8 w_al b9 w_ie w_ww w_th b10 w_bs) H := hP
        have hD : va_D A (kX4 cB cI mo mb ma w_zf w_nf w_hf w_cf b7 x12 false w_wt false w_bg b8 w_al b9 w_ie w_ww w_th b10 w_bs) := hD
        have hf := hF.trans (kI_inr hf)
        rw [← hQ]
        exact W.vret hx hb hr (fun t ht hW => ⟨⟨(b7, x12, false, false, b8, b9, b10), rfl, hf.symm, by rw [ht]; exact hP, va_K.moved hW.alike hK, hD⟩, hS.F ht⟩) hS.2.2 dX4_dispatch_68
      · have hf := hf.trans (kt_eq c2)
        obtain ⟨x13, ex13⟩ : ∃ y9 : Int32, y9 = x1 + (1 : Int32) := ⟨_, rfl⟩
        have hf := hf.trans (kE1 ex13)
        refine lv_iinc (v := x13) (lv' := [(2, .int x13), (0, .ref mo), (1, .int a1)]) hx hb dX4_dispatch_10 hl (k := 0) rfl (by rw [ex13]; rfl) (by decide) rfl (fun ls hl => ?_)
        refine lv_goto (tgt := 2) hx hb dX4_dispatch_13 (by decide) ?_
        exact ih x13 (kTd_step hpre1 ex13 c2 ht9) (hF.trans (kI_inl hf)) H locs ls (lv_sub hl [0, 1, 2] rfl) hP hD hS
  exact hLp 6 (0 : Int32) (kTd_init hpre1) hf H locs ls (lv_sub hl [0, 1, 2] rfl) hP hD hS
def fX4_time_L (w_al : Int32) (w_cl : Int32) (q9 : Int32 × Int32 × (Nat → Int32)) : (Int32 × Int32 × (Nat → Int32)) ⊕ (Int32 × Int32 × (Nat → Int32)) := kU3 q9 (fun (x1 : Int32) (b2 : Int32) (b3 : Nat → Int32) => (kIf (kLe w_cl x1) (kU1 (((w_al + w_cl) &&& (1073741823 : Int32))) (fun (x5 : Int32) => (Sum.inr (b2, x5, b3)))) (kU1 (((b2 + (1 : Int32)) &&& (255 : Int32))) (fun (x6 : Int32) => (kU1 (((kIf (kEq (x6 - x6 / (64 : Int32) * (64 : Int32)) (0 : Int32)) (kU1 (fX4_at b3 (65284 : Int32)) (fun (r9 : Int32) => (kU1 (fX4_puts b3 (65284 : Int32) (r9 + (1 : Int32))) (fun (b10 : Nat → Int32) => b10)))) b3) : (Nat → Int32))) (fun (b12 : Nat → Int32) => (kU1 (fX4_at b12 (65287 : Int32)) (fun (r15 : Int32) => (kU1 (((kIf (kEq (r15 - r15 / (4 : Int32) * (4 : Int32)) (0 : Int32)) (256 : Int32) (kIf (kEq (r15 - r15 / (4 : Int32) * (4 : Int32)) (1 : Int32)) (4 : Int32) (kIf (kEq (r15 - r15 / (4 : Int32) * (4 : Int32)) (2 : Int32)) (16 : Int32) (64 : Int32)))) : Int32)) (fun (x19 : Int32) => (kU1 (((kIf (kEq (r15 &&& (4 : Int32)) (0 : Int32)) b12 (kIf (kEq (x6 - x6 / x19 * x19) (0 : Int32)) (kU1 (fX4_at b12 (65285 : Int32)) (fun (r24 : Int32) => (kU1 (fX4_puts b12 (65285 : Int32) (r24 + (1 : Int32))) (fun (b25 : Nat → Int32) => (kU1 (fX4_at b25 (65285 : Int32)) (fun (r28 : Int32) => (kIf (kEq r28 (0 : Int32)) (kU1 (fX4_at b25 (65286 : Int32)) (fun (r31 : Int32) => (kU1 (fX4_puts b25 (65285 : Int32) r31) (fun (b32 : Nat → Int32) => (kU1 (fX4_at b32 (65295 : Int32)) (fun (r35 : Int32) => (kU1 (fX4_puts b32 (65295 : Int32) (r35 ||| (4 : Int32))) (fun (b36 : Nat → Int32) => b36)))))))) b25))))))) b12)) : (Nat → Int32))) (fun (b38 : Nat → Int32) => (kU1 (x1 + (1 : Int32)) (fun (x40 : Int32) => Sum.inl (x40, x6, b38)))))))))))))))
def fX4_time (w_cn : Int32) (w_al : Int32) (w_cl : Int32) (w_mm : Nat → Int32)  : Int32 × Int32 × (Nat → Int32) := (kIt (fX4_time_L w_al w_cl) (w_cn, w_al, w_mm) (w_cl.toNatClampNeg + 1) ((0 : Int32), w_cn, w_mm))
def rmX4_time : Room := { frames := 1, cells := 0, slots := 0, locals := 22 }
def wwX4_time : List Cond := Cond.code yX4_time cX4_time 4 none :: wsL_law
theorem hdX4_time : yX4_time.cls = RX4 ∧ yX4_time.cls ≠ "java/lang/invoke/MethodHandle" ∧ yX4_time.cls ≠ "java/lang/invoke/VarHandle" ∧ (parseMethodDescriptor yX4_time.desc).map (fun d => d.parameters.length) = some 0 := by decide +kernel
set_option maxHeartbeats 4000000 in
set_option maxRecDepth 100000 in
theorem c_X4_time (l : Launch) (D : va_G) (cB : ClassId) (cI : ClassId) (mo mb ma sz : Nat) (w_zf : Bool) (w_nf : Bool) (w_hf : Bool) (w_cf : Bool) (w_sp : Int32) (w_pc : Int32) (w_on : Bool) (w_wt : Bool) (w_ht : Bool) (w_bg : Bool) (w_cn : Int32) (w_al : Int32) (w_cl : Int32) (w_ie : Bool) (w_ww : Bool) (w_th : Int32) (w_mm : Nat → Int32) (w_bs : Nat → Int32)   : Met l yX4_time wwX4_time rmX4_time (va_Pc [.ref mo] (kp D (kX4 cB cI mo mb ma w_zf w_nf w_hf w_cf w_sp w_pc w_on w_wt w_ht w_bg w_cn w_al w_cl w_ie w_ww w_th w_mm w_bs) [(cB, .byte), (cI, .int)] sz)) (va_Qv (fun (u9 : Int32 × Int32 × (Nat → Int32)) => u9 = fX4_time w_cn w_al w_cl w_mm) (fun u9 t => kq D (kX4 cB cI mo mb ma w_zf w_nf w_hf w_cf w_sp w_pc w_on w_wt w_ht w_bg (u9.1) (u9.2.1) w_cl w_ie w_ww w_th (u9.2.2) w_bs) [(cB, .byte), (cI, .int)] (va_A (kX4 cB cI mo mb ma w_zf w_nf w_hf w_cf w_sp w_pc w_on w_wt w_ht w_bg w_cn w_al w_cl w_ie w_ww w_th w_mm w_bs) sz) t) (va_A (kX4 cB cI mo mb ma w_zf w_nf w_hf w_cf w_sp w_pc w_on w_wt w_ht w_bg w_cn w_al w_cl w_ie w_ww w_th w_mm w_bs) sz)) 0 0 (va_A (kX4 cB cI mo mb ma w_zf w_nf w_hf w_cf w_sp w_pc w_on w_wt w_ht w_bg w_cn w_al w_cl w_ie w_ww w_th w_mm w_bs) sz) := by
  refine Met.ofW (cc := cX4_time) (maxL := 4) (ret := none) (by decide) rfl ?_
  intro p e s m args below meth c s₁ B hml hv
  obtain ⟨rfl, hsz, hP, hK, hD0, hT⟩ := hv
  have hx := B.exec
  have hb := B.bytes
  have hr := B.returns
  have hts := atoms_spec (ws := wwX4_time) B.pre
  have hws : ∀ w ∈ wsL_law, w.before _ s = true := fun w h => hts w (List.mem_cons_of_mem _ h)
  have hown : s.vm.findClass RX4 = some m.cls := findClass_of_methodNamed B.named
  have hlocks := B.notSynchronized
  subst hsz
  have hD := hD0.self (sz := s.heap.size)
  generalize hAe : va_A (kX4 cB cI mo mb ma w_zf w_nf w_hf w_cf w_sp w_pc w_on w_wt w_ht w_bg w_cn w_al w_cl w_ie w_ww w_th w_mm w_bs) s.heap.size = A at hD hT ⊢
  have hA : ∀ q : Nat, s.heap.size ≤ q → A q := fun q h => by rw [← hAe]; exact Or.inr h
  have hS : va_S A s.heap s.heap [] := va_S.rf
  have hl := lv_entry ([.ref mo]) (n := 4) (Nat.le_of_ble_eq_true rfl)
  rw [lg_entry_eq]
  generalize (lg_sl ([.ref mo]) ++ List.replicate (4 - (lg_sl ([.ref mo])).length) Slot.unset).toArray = ls at hl ⊢
  have hl : lv_has ls 4 [(0, .ref mo)] := hl
  generalize hQ : MQ _ _ _ _ _ _ _ = Q
  obtain ⟨H, hHe⟩ : ∃ H : Heap, H = s.heap := ⟨_, rfl⟩
  obtain ⟨locs, hle⟩ : ∃ L : List Loc, L = [] := ⟨_, rfl⟩
  have hP : va_P D vwCl (kX4 cB cI mo mb ma w_zf w_nf w_hf w_cf w_sp w_pc w_on w_wt w_ht w_bg w_cn w_al w_cl w_ie w_ww w_th w_mm w_bs) H := by rw [hHe]; exact hP
  have hS : va_S A s.heap H locs := by rw [hHe, hle]; exact hS
  refine kw_start hHe.symm hle.symm ?_
  have hf : fX4_time w_cn w_al w_cl w_mm = fX4_time w_cn w_al w_cl w_mm := rfl
  refine lv_iconst (v := 0) hx hb dX4_time_0 (by decide) ?_
  refine lv_istore_n (lv' := [(1, .int (0 : Int32)), (0, .ref mo)]) hx hb dX4_time_1 rfl hl (by decide) rfl (fun ls hl => ?_)
  have hLp : ∀ (n9 : Nat) (x1 : Int32) (b2 : Int32) (b3 : Nat → Int32), kT w_cl.toNatClampNeg x1 n9 → fX4_time w_cn w_al w_cl w_mm = kIt (fX4_time_L w_al w_cl) (w_cn, w_al, w_mm) n9 (x1, b2, b3) → ∀ (H : Heap) (locs : List Loc) (ls : Array Slot), lv_has ls 4 [(1, .int x1), (0, .ref mo)] → va_P D vwCl (kX4 cB cI mo mb ma w_zf w_nf w_hf w_cf w_sp w_pc w_on w_wt w_ht w_bg b2 w_al w_cl w_ie w_ww w_th b3 w_bs) H → va_D A (kX4 cB cI mo mb ma w_zf w_nf w_hf w_cf w_sp w_pc w_on w_wt w_ht w_bg b2 w_al w_cl w_ie w_ww w_th b3 w_bs) → va_S A s.heap H locs → W p l e (headSpec wwX4_time rmX4_time).room s m ([.ref mo] : List Value).toArray below meth c H locs 0 0 Q (F0 m 2 ls []) := by
    intro n9
    induction n9 with
    | zero => intro x1 b2 b3 ht9 hF H locs ls hl hP hD hS; exact absurd ht9 kT_0
    | succ n9 ih =>
      intro x1 b2 b3 ht9 hF H locs ls hl hP hD hS
      have hf : fX4_time_L w_al w_cl (x1, b2, b3) = _ := kE3 rfl
      refine lv_iload_n hx hb dX4_time_2 rfl (lv_at hl 0 rfl) ?_
      refine lv_aload_n hx hb dX4_time_3 rfl (lv_at hl 1 rfl) ?_
      refine va_get (D := D) (ci := 4) (v := .int w_cl) (C := RX4) (T := TX4) (N := 18) hx hb hws inlX4 hown hK hP 0 rfl rfl 14 (by decide) (hws _ mw_367) (fun _ h9 => h9) rfl dX4_time_4 ?_
      refine lv_icmp_ge (tgt := 166) hx hb dX4_time_7 (by decide) (fun c4 => ?_) (fun c4 => ?_)
      · have hf := hf.trans (kt_le c4)
        refine lv_aload_n hx hb dX4_time_166 rfl (lv_at hl 1 rfl) ?_
        refine lv_aload_n hx hb dX4_time_167 rfl (lv_at hl 1 rfl) ?_
        refine va_get (D := D) (ci := 4) (v := .int w_al) (C := RX4) (T := TX4) (N := 18) hx hb hws inlX4 hown hK hP 0 rfl rfl 13 (by decide) (hws _ mw_396) (fun _ h9 => h9) rfl dX4_time_168 ?_
        refine lv_aload_n hx hb dX4_time_171 rfl (lv_at hl 1 rfl) ?_
        refine va_get (D := D) (ci := 4) (v := .int w_cl) (C := RX4) (T := TX4) (N := 18) hx hb hws inlX4 hown hK hP 0 rfl rfl 14 (by decide) (hws _ mw_367) (fun _ h9 => h9) rfl dX4_time_172 ?_
        refine lv_iadd hx hb dX4_time_175 ?_
        refine lv_ldc (v := 1073741823) hx hb hown (hws _ mw_397) dX4_time_176 ?_
        refine lv_iand hx hb dX4_time_178 ?_
        refine lv_topi (fun x5 ex5 => ?_)
        have hf := hf.trans (kE1 ex5)
        refine va_put (D := D) (ci := 4) (v := .int x5) (ty := .int) (C := RX4) (T := TX4) (N := 18) hx hb hws inlX4 tyX4 tyX4_ok nmX4 hown hK hP hD hS 0 rfl rfl 13 (by decide) (hws _ mw_396) (fun _ h9 => h9) rfl (tyX4_ok 13 (by decide)) rfl rfl (Nat.le_of_ble_eq_true rfl) dX4_time_179 (fun H locs hP hD hS => ?_)
        have hP : va_P D vwCl (kX4 cB cI mo mb ma w_zf w_nf w_hf w_cf w_sp w_pc w_on w_wt w_ht w_bg b2 x5 w_cl w_ie w_ww w_th b3 w_bs) H := hP
        have hD : va_D A (kX4 cB cI mo mb ma w_zf w_nf w_hf w_cf w_sp w_pc w_on w_wt w_ht w_bg b2 x5 w_cl w_ie w_ww w_th b3 w_bs) := hD
        have hf := hF.trans (kI_inr hf)
        rw [← hQ]
        exact W.vret hx hb hr (fun t ht hW => ⟨⟨(b2, x5, b3), rfl, hf.symm, by rw [ht]; exact hP, va_K.moved hW.alike hK, hD⟩, hS.F ht⟩) hS.2.2 dX4_time_182
      · have hf := hf.trans (kf_le c4)
        refine lv_aload_n hx hb dX4_time_10 rfl (lv_at hl 1 rfl) ?_
        refine lv_aload_n hx hb dX4_time_11 rfl (lv_at hl 1 rfl) ?_
        refine va_get (D := D) (ci := 4) (v := .int b2) (C := RX4) (T := TX4) (N := 18) hx hb hws inlX4 hown hK hP 0 rfl rfl 12 (by decide) (hws _ mw_388) (fun _ h9 => h9) rfl dX4_time_12 ?_
        refine lv_iconst (v := 1) hx hb dX4_time_15 (by decide) ?_
        refine lv_iadd hx hb dX4_time_16 ?_
        refine lv_sipush (v := 255) hx hb dX4_time_17 (by decide) ?_
        refine lv_iand hx hb dX4_time_20 ?_
        refine lv_topi (fun x6 ex6 => ?_)
        have hf := hf.trans (kE1 ex6)
        refine va_put (D := D) (ci := 4) (v := .int x6) (ty := .int) (C := RX4) (T := TX4) (N := 18) hx hb hws inlX4 tyX4 tyX4_ok nmX4 hown hK hP hD hS 0 rfl rfl 12 (by decide) (hws _ mw_388) (fun _ h9 => h9) rfl (tyX4_ok 12 (by decide)) rfl rfl (Nat.le_of_ble_eq_true rfl) dX4_time_21 (fun H locs hP hD hS => ?_)
        have hP : va_P D vwCl (kX4 cB cI mo mb ma w_zf w_nf w_hf w_cf w_sp w_pc w_on w_wt w_ht w_bg x6 w_al w_cl w_ie w_ww w_th b3 w_bs) H := hP
        have hD : va_D A (kX4 cB cI mo mb ma w_zf w_nf w_hf w_cf w_sp w_pc w_on w_wt w_ht w_bg x6 w_al w_cl w_ie w_ww w_th b3 w_bs) := hD
        refine lv_aload_n hx hb dX4_time_24 rfl (lv_at hl 1 rfl) ?_
        refine va_get (D := D) (ci := 4) (v := .int x6) (C := RX4) (T := TX4) (N := 18) hx hb hws inlX4 hown hK hP 0 rfl rfl 12 (by decide) (hws _ mw_388) (fun _ h9 => h9) rfl dX4_time_25 ?_
        refine lv_bipush (v := 64) hx hb dX4_time_28 (by decide) ?_
        refine lv_irem hx hb dX4_time_30 (by decide) ?_
        obtain ⟨TJ13, hTJ13⟩ : ∃ T9 : (Nat → Int32), T9 = (kIf (kEq (x6 - x6 / (64 : Int32) * (64 : Int32)) (0 : Int32)) (kU1 (fX4_at b3 (65284 : Int32)) (fun (r9 : Int32) => (kU1 (fX4_puts b3 (65284 : Int32) (r9 + (1 : Int32))) (fun (b10 : Nat → Int32) => b10)))) b3) := ⟨_, rfl⟩
        have J13 : ∀ (b12 : Nat → Int32), b12 = TJ13 → ∀ (H : Heap) (locs : List Loc) (ls : Array Slot), lv_has ls 4 [(1, .int x1), (0, .ref mo)] → va_P D vwCl (kX4 cB cI mo mb ma w_zf w_nf w_hf w_cf w_sp w_pc w_on w_wt w_ht w_bg x6 w_al w_cl w_ie w_ww w_th b12 w_bs) H → va_D A (kX4 cB cI mo mb ma w_zf w_nf w_hf w_cf w_sp w_pc w_on w_wt w_ht w_bg x6 w_al w_cl w_ie w_ww w_th b12 w_bs) → va_S A s.heap H locs → W p l e (headSpec wwX4_time rmX4_time).room s m ([.ref mo] : List Value).toArray below meth c H locs 0 0 Q (F0 m 48 ls []) := by
          intro b12 eJ13 H locs ls hl hP hD hS
          have hf := hf.trans (kE1 (eJ13.trans hTJ13))
          refine lv_aload_n hx hb dX4_time_48 rfl (lv_at hl 1 rfl) ?_
          refine lv_ldc (v := 65287) hx hb hown (hws _ mw_393) dX4_time_49 ?_
          refine kc_Vi (wr := []) (As := [.int (65287 : Int32)]) (rest := []) (fun _ => (kX4 cB cI mo mb ma w_zf w_nf w_hf w_cf w_sp w_pc w_on w_wt w_ht w_bg x6 w_al w_cl w_ie w_ww w_th b12 w_bs)) ⟨hx, hb, hml, hown, hws⟩ hK hP hD hS hA hT (c_X4_at l D cB cI mo mb ma H.size w_zf w_nf w_hf w_cf w_sp w_pc w_on w_wt w_ht w_bg x6 w_al w_cl w_ie w_ww w_th b12 w_bs (65287 : Int32)) (cwV 1 hws (gw_V mw_93 mw_94 mw_95 mw_5 mw_96) rfl rfl rfl hdX4_at ⟨Nat.le_of_ble_eq_true rfl, Nat.le_of_ble_eq_true rfl⟩) [0, 1, 2] [] [0, 1] [0, 1, 2] rfl rfl rfl rfl (by decide) rfl (fun _ => rfl) rfl 0 rfl rfl rfl rfl hl.1 rfl (Nat.le_of_ble_eq_true rfl) dX4_time_51 ⟨Nat.zero_le _, Nat.zero_le _⟩ (fun r15 _ H locs hw14 hP hD hS => ?_)
          have hP : va_P D vwCl (kX4 cB cI mo mb ma w_zf w_nf w_hf w_cf w_sp w_pc w_on w_wt w_ht w_bg x6 w_al w_cl w_ie w_ww w_th b12 w_bs) H := hP
          have hD : va_D A (kX4 cB cI mo mb ma w_zf w_nf w_hf w_cf w_sp w_pc w_on w_wt w_ht w_bg x6 w_al w_cl w_ie w_ww w_th b12 w_bs) := hD
          have hf := hf.trans (kE1 hw14)
          refine lv_istore_n (lv' := [(2, .int r15), (1, .int x1), (0, .ref mo)]) hx hb dX4_time_54 rfl hl (by decide) rfl (fun ls hl => ?_)
          refine lv_iload_n hx hb dX4_time_55 rfl (lv_at hl 0 rfl) ?_
          refine lv_iconst (v := 4) hx hb dX4_time_56 (by decide) ?_
          refine lv_irem hx hb dX4_time_57 (by decide) ?_
          obtain ⟨TJ20, hTJ20⟩ : ∃ T9 : Int32, T9 = (kIf (kEq (r15 - r15 / (4 : Int32) * (4 : Int32)) (0 : Int32)) (256 : Int32) (kIf (kEq (r15 - r15 / (4 : Int32) * (4 : Int32)) (1 : Int32)) (4 : Int32) (kIf (kEq (r15 - r15 / (4 : Int32) * (4 : Int32)) (2 : Int32)) (16 : Int32) (64 : Int32)))) := ⟨_, rfl⟩
          have J20 : ∀ (x19 : Int32), x19 = TJ20 → ∀ (H : Heap) (locs : List Loc) (ls : Array Slot), lv_has ls 4 [(2, .int r15), (1, .int x1), (0, .ref mo)] → va_P D vwCl (kX4 cB cI mo mb ma w_zf w_nf w_hf w_cf w_sp w_pc w_on w_wt w_ht w_bg x6 w_al w_cl w_ie w_ww w_th b12 w_bs) H → va_D A (kX4 cB cI mo mb ma w_zf w_nf w_hf w_cf w_sp w_pc w_on w_wt w_ht w_bg x6 w_al w_cl w_ie w_ww w_th b12 w_bs) → va_S A s.heap H locs → W p l e (headSpec wwX4_time rmX4_time).room s m ([.ref mo] : List Value).toArray below meth c H locs 0 0 Q (F0 m 92 ls [.int x19]) := by
            intro x19 eJ20 H locs ls hl hP hD hS
            have hf := hf.trans (kE1 (eJ20.trans hTJ20))
            refine lv_istore_n (lv' := [(3, .int x19), (2, .int r15), (1, .int x1), (0, .ref mo)]) hx hb dX4_time_92 rfl hl (by decide) rfl (fun ls hl => ?_)
            refine lv_iload_n hx hb dX4_time_93 rfl (lv_at hl 1 rfl) ?_
            refine lv_iconst (v := 4) hx hb dX4_time_94 (by decide) ?_
            refine lv_iand hx hb dX4_time_95 ?_
            obtain ⟨TJ39, hTJ39⟩ : ∃ T9 : (Nat → Int32), T9 = (kIf (kEq (r15 &&& (4 : Int32)) (0 : Int32)) b12 (kIf (kEq (x6 - x6 / x19 * x19) (0 : Int32)) (kU1 (fX4_at b12 (65285 : Int32)) (fun (r24 : Int32) => (kU1 (fX4_puts b12 (65285 : Int32) (r24 + (1 : Int32))) (fun (b25 : Nat → Int32) => (kU1 (fX4_at b25 (65285 : Int32)) (fun (r28 : Int32) => (kIf (kEq r28 (0 : Int32)) (kU1 (fX4_at b25 (65286 : Int32)) (fun (r31 : Int32) => (kU1 (fX4_puts b25 (65285 : Int32) r31) (fun (b32 : Nat → Int32) => (kU1 (fX4_at b32 (65295 : Int32)) (fun (r35 : Int32) => (kU1 (fX4_puts b32 (65295 : Int32) (r35 ||| (4 : Int32))) (fun (b36 : Nat → Int32) => b36)))))))) b25))))))) b12)) := ⟨_, rfl⟩
            have J39 : ∀ (b38 : Nat → Int32), b38 = TJ39 → ∀ (H : Heap) (locs : List Loc) (ls : Array Slot), lv_has ls 4 [(3, .int x19), (2, .int r15), (1, .int x1), (0, .ref mo)] → va_P D vwCl (kX4 cB cI mo mb ma w_zf w_nf w_hf w_cf w_sp w_pc w_on w_wt w_ht w_bg x6 w_al w_cl w_ie w_ww w_th b38 w_bs) H → va_D A (kX4 cB cI mo mb ma w_zf w_nf w_hf w_cf w_sp w_pc w_on w_wt w_ht w_bg x6 w_al w_cl w_ie w_ww w_th b38 w_bs) → va_S A s.heap H locs → W p l e (headSpec wwX4_time rmX4_time).room s m ([.ref mo] : List Value).toArray below meth c H locs 0 0 Q (F0 m 160 ls []) := by
              intro b38 eJ39 H locs ls hl hP hD hS
              have hf := hf.trans (kE1 (eJ39.trans hTJ39))
              obtain ⟨x40, ex40⟩ : ∃ y9 : Int32, y9 = x1 + (1 : Int32) := ⟨_, rfl⟩
              have hf := hf.trans (kE1 ex40)
              refine lv_iinc (v := x40) (lv' := [(1, .int x40), (3, .int x19), (2, .int r15), (0, .ref mo)]) hx hb dX4_time_160 hl (k := 2) rfl (by rw [ex40]; rfl) (by decide) rfl (fun ls hl => ?_)
              refine lv_goto (tgt := 2) hx hb dX4_time_163 (by decide) ?_
              exact ih x40 x6 b38 (kT_stepV ex40 c4 ht9) (hF.trans (kI_inl hf)) H locs ls (lv_sub hl [0, 3] rfl) hP hD hS
            have hf := hTJ39
            refine lv_if_eq (tgt := 160) hx hb dX4_time_96 (by decide) (fun c21 => ?_) (fun c21 => ?_)
            · have hf := hf.trans (kt_eq c21)
              exact J39 b12 hf.symm H locs ls (lv_sub hl [0, 1, 2, 3] rfl) hP hD hS
            · have hf := hf.trans (kf_eq c21)
              refine lv_aload_n hx hb dX4_time_99 rfl (lv_at hl 3 rfl) ?_
              refine va_get (D := D) (ci := 4) (v := .int x6) (C := RX4) (T := TX4) (N := 18) hx hb hws inlX4 hown hK hP 0 rfl rfl 12 (by decide) (hws _ mw_388) (fun _ h9 => h9) rfl dX4_time_100 ?_
              refine lv_iload_n hx hb dX4_time_103 rfl (lv_at hl 0 rfl) ?_
              refine lv_irem hx hb dX4_time_104 (by rw [(eJ20.trans hTJ20)]; repeat' (first | decide | apply kz_if)) ?_
              refine lv_if_eq (tgt := 111) hx hb dX4_time_105 (by decide) (fun c22 => ?_) (fun c22 => ?_)
              · have hf := hf.trans (kt_eq c22)
                refine lv_aload_n hx hb dX4_time_111 rfl (lv_at hl 3 rfl) ?_
                refine lv_ldc (v := 65285) hx hb hown (hws _ mw_394) dX4_time_112 ?_
                refine lv_aload_n hx hb dX4_time_114 rfl (lv_at hl 3 rfl) ?_
                refine lv_ldc (v := 65285) hx hb hown (hws _ mw_394) dX4_time_115 ?_
                refine kc_Vi (wr := []) (As := [.int (65285 : Int32)]) (rest := [.int (65285 : Int32), .ref mo]) (fun _ => (kX4 cB cI mo mb ma w_zf w_nf w_hf w_cf w_sp w_pc w_on w_wt w_ht w_bg x6 w_al w_cl w_ie w_ww w_th b12 w_bs)) ⟨hx, hb, hml, hown, hws⟩ hK hP hD hS hA hT (c_X4_at l D cB cI mo mb ma H.size w_zf w_nf w_hf w_cf w_sp w_pc w_on w_wt w_ht w_bg x6 w_al w_cl w_ie w_ww w_th b12 w_bs (65285 : Int32)) (cwV 1 hws (gw_V mw_93 mw_94 mw_95 mw_5 mw_96) rfl rfl rfl hdX4_at ⟨Nat.le_of_ble_eq_true rfl, Nat.le_of_ble_eq_true rfl⟩) [0, 1, 2] [] [0, 1] [0, 1, 2] rfl rfl rfl rfl (by decide) rfl (fun _ => rfl) rfl 0 rfl rfl rfl rfl hl.1 rfl (Nat.le_of_ble_eq_true rfl) dX4_time_117 ⟨Nat.zero_le _, Nat.zero_le _⟩ (fun r24 _ H locs hw23 hP hD hS => ?_)
                have hP : va_P D vwCl (kX4 cB cI mo mb ma w_zf w_nf w_hf w_cf w_sp w_pc w_on w_wt w_ht w_bg x6 w_al w_cl w_ie w_ww w_th b12 w_bs) H := hP
                have hD : va_D A (kX4 cB cI mo mb ma w_zf w_nf w_hf w_cf w_sp w_pc w_on w_wt w_ht w_bg x6 w_al w_cl w_ie w_ww w_th b12 w_bs) := hD
                have hf := hf.trans (kE1 hw23)
                refine lv_iconst (v := 1) hx hb dX4_time_120 (by decide) ?_
                refine lv_iadd hx hb dX4_time_121 ?_
                refine kc_Vv (wr := []) (As := [.int (65285 : Int32), .int (r24 + (1 : Int32))]) (rest := []) (fun u9 => (kX4 cB cI mo mb ma w_zf w_nf w_hf w_cf w_sp w_pc w_on w_wt w_ht w_bg x6 w_al w_cl w_ie w_ww w_th u9 w_bs)) ⟨hx, hb, hml, hown, hws⟩ hK hP hD hS hA hT (c_X4_puts l D cB cI mo mb ma H.size w_zf w_nf w_hf w_cf w_sp w_pc w_on w_wt w_ht w_bg x6 w_al w_cl w_ie w_ww w_th b12 w_bs (65285 : Int32) (r24 + (1 : Int32))) (cwV 2 hws (gw_V mw_62 mw_63 mw_64 mw_5 mw_65) rfl rfl rfl hdX4_puts ⟨Nat.le_of_ble_eq_true rfl, Nat.le_of_ble_eq_true rfl⟩) [0, 1, 2] [] [0, 1] [0, 1, 2] rfl rfl rfl rfl (by decide) rfl (fun _ => rfl) rfl 0 rfl rfl rfl rfl hl.1 rfl (Nat.le_of_ble_eq_true rfl) dX4_time_122 ⟨Nat.zero_le _, Nat.zero_le _⟩ (fun b25 H locs hw26 hP hD hS => ?_)
                have hP : va_P D vwCl (kX4 cB cI mo mb ma w_zf w_nf w_hf w_cf w_sp w_pc w_on w_wt w_ht w_bg x6 w_al w_cl w_ie w_ww w_th b25 w_bs) H := hP
                have hD : va_D A (kX4 cB cI mo mb ma w_zf w_nf w_hf w_cf w_sp w_pc w_on w_wt w_ht w_bg x6 w_al w_cl w_ie w_ww w_th b25 w_bs) := hD
                have hf := hf.trans (kE1 hw26)
                refine lv_aload_n hx hb dX4_time_125 rfl (lv_at hl 3 rfl) ?_
                refine lv_ldc (v := 65285) hx hb hown (hws _ mw_394) dX4_time_126 ?_
                refine kc_Vi (wr := []) (As := [.int (65285 : Int32)]) (rest := []) (fun _ => (kX4 cB cI mo mb ma w_zf w_nf w_hf w_cf w_sp w_pc w_on w_wt w_ht w_bg x6 w_al w_cl w_ie w_ww w_th b25 w_bs)) ⟨hx, hb, hml, hown, hws⟩ hK hP hD hS hA hT (c_X4_at l D cB cI mo mb ma H.size w_zf w_nf w_hf w_cf w_sp w_pc w_on w_wt w_ht w_bg x6 w_al w_cl w_ie w_ww w_th b25 w_bs (65285 : Int32)) (cwV 1 hws (gw_V mw_93 mw_94 mw_95 mw_5 mw_96) rfl rfl rfl hdX4_at ⟨Nat.le_of_ble_eq_true rfl, Nat.le_of_ble_eq_true rfl⟩) [0, 1, 2] [] [0, 1] [0, 1, 2] rfl rfl rfl rfl (by decide) rfl (fun _ => rfl) rfl 0 rfl rfl rfl rfl hl.1 rfl (Nat.le_of_ble_eq_true rfl) dX4_time_128 ⟨Nat.zero_le _, Nat.zero_le _⟩ (fun r28 _ H locs hw27 hP hD hS => ?_)
                have hP : va_P D vwCl (kX4 cB cI mo mb ma w_zf w_nf w_hf w_cf w_sp w_pc w_on w_wt w_ht w_bg x6 w_al w_cl w_ie w_ww w_th b25 w_bs) H := hP
                have hD : va_D A (kX4 cB cI mo mb ma w_zf w_nf w_hf w_cf w_sp w_pc w_on w_wt w_ht w_bg x6 w_al w_cl w_ie w_ww w_th b25 w_bs) := hD
                have hf := hf.trans (kE1 hw27)
                refine lv_if_ne (tgt := 160) hx hb dX4_time_131 (by decide) (fun c29 => ?_) (fun c29 => ?_)
                · have hf := hf.trans (kf_eq c29)
                  exact J39 b25 hf.symm H locs ls (lv_sub hl [0, 1, 2, 3] rfl) hP hD hS
                · have hf := hf.trans (kt_eq c29)
                  refine lv_aload_n hx hb dX4_time_134 rfl (lv_at hl 3 rfl) ?_
                  refine lv_ldc (v := 65285) hx hb hown (hws _ mw_394) dX4_time_135 ?_
                  refine lv_aload_n hx hb dX4_time_137 rfl (lv_at hl 3 rfl) ?_
                  refine lv_ldc (v := 65286) hx hb hown (hws _ mw_395) dX4_time_138 ?_
                  refine kc_Vi (wr := []) (As := [.int (65286 : Int32)]) (rest := [.int (65285 : Int32), .ref mo]) (fun _ => (kX4 cB cI mo mb ma w_zf w_nf w_hf w_cf w_sp w_pc w_on w_wt w_ht w_bg x6 w_al w_cl w_ie w_ww w_th b25 w_bs)) ⟨hx, hb, hml, hown, hws⟩ hK hP hD hS hA hT (c_X4_at l D cB cI mo mb ma H.size w_zf w_nf w_hf w_cf w_sp w_pc w_on w_wt w_ht w_bg x6 w_al w_cl w_ie w_ww w_th b25 w_bs (65286 : Int32)) (cwV 1 hws (gw_V mw_93 mw_94 mw_95 mw_5 mw_96) rfl rfl rfl hdX4_at ⟨Nat.le_of_ble_eq_true rfl, Nat.le_of_ble_eq_true rfl⟩) [0, 1, 2] [] [0, 1] [0, 1, 2] rfl rfl rfl rfl (by decide) rfl (fun _ => rfl) rfl 0 rfl rfl rfl rfl hl.1 rfl (Nat.le_of_ble_eq_true rfl) dX4_time_140 ⟨Nat.zero_le _, Nat.zero_le _⟩ (fun r31 _ H locs hw30 hP hD hS => ?_)
                  have hP : va_P D vwCl (kX4 cB cI mo mb ma w_zf w_nf w_hf w_cf w_sp w_pc w_on w_wt w_ht w_bg x6 w_al w_cl w_ie w_ww w_th b25 w_bs) H := hP
                  have hD : va_D A (kX4 cB cI mo mb ma w_zf w_nf w_hf w_cf w_sp w_pc w_on w_wt w_ht w_bg x6 w_al w_cl w_ie w_ww w_th b25 w_bs) := hD
                  have hf := hf.trans (kE1 hw30)
                  refine kc_Vv (wr := []) (As := [.int (65285 : Int32), .int r31]) (rest := []) (fun u9 => (kX4 cB cI mo mb ma w_zf w_nf w_hf w_cf w_sp w_pc w_on w_wt w_ht w_bg x6 w_al w_cl w_ie w_ww w_th u9 w_bs)) ⟨hx, hb, hml, hown, hws⟩ hK hP hD hS hA hT (c_X4_puts l D cB cI mo mb ma H.size w_zf w_nf w_hf w_cf w_sp w_pc w_on w_wt w_ht w_bg x6 w_al w_cl w_ie w_ww w_th b25 w_bs (65285 : Int32) r31) (cwV 2 hws (gw_V mw_62 mw_63 mw_64 mw_5 mw_65) rfl rfl rfl hdX4_puts ⟨Nat.le_of_ble_eq_true rfl, Nat.le_of_ble_eq_true rfl⟩) [0, 1, 2] [] [0, 1] [0, 1, 2] rfl rfl rfl rfl (by decide) rfl (fun _ => rfl) rfl 0 rfl rfl rfl rfl hl.1 rfl (Nat.le_of_ble_eq_true rfl) dX4_time_143 ⟨Nat.zero_le _, Nat.zero_le _⟩ (fun b32 H locs hw33 hP hD hS => ?_)
                  have hP : va_P D vwCl (kX4 cB cI mo mb ma w_zf w_nf w_hf w_cf w_sp w_pc w_on w_wt w_ht w_bg x6 w_al w_cl w_ie w_ww w_th b32 w_bs) H := hP
                  have hD : va_D A (kX4 cB cI mo mb ma w_zf w_nf w_hf w_cf w_sp w_pc w_on w_wt w_ht w_bg x6 w_al w_cl w_ie w_ww w_th b32 w_bs) := hD
                  have hf := hf.trans (kE1 hw33)
                  refine lv_aload_n hx hb dX4_time_146 rfl (lv_at hl 3 rfl) ?_
                  refine lv_ldc (v := 65295) hx hb hown (hws _ mw_366) dX4_time_147 ?_
                  refine lv_aload_n hx hb dX4_time_149 rfl (lv_at hl 3 rfl) ?_
                  refine lv_ldc (v := 65295) hx hb hown (hws _ mw_366) dX4_time_150 ?_
                  refine kc_Vi (wr := []) (As := [.int (65295 : Int32)]) (rest := [.int (65295 : Int32), .ref mo]) (fun _ => (kX4 cB cI mo mb ma w_zf w_nf w_hf w_cf w_sp w_pc w_on w_wt w_ht w_bg x6 w_al w_cl w_ie w_ww w_th b32 w_bs)) ⟨hx, hb, hml, hown, hws⟩ hK hP hD hS hA hT (c_X4_at l D cB cI mo mb ma H.size w_zf w_nf w_hf w_cf w_sp w_pc w_on w_wt w_ht w_bg x6 w_al w_cl w_ie w_ww w_th b32 w_bs (65295 : Int32)) (cwV 1 hws (gw_V mw_93 mw_94 mw_95 mw_5 mw_96) rfl rfl rfl hdX4_at ⟨Nat.le_of_ble_eq_true rfl, Nat.le_of_ble_eq_true rfl⟩) [0, 1, 2] [] [0, 1] [0, 1, 2] rfl rfl rfl rfl (by decide) rfl (fun _ => rfl) rfl 0 rfl rfl rfl rfl hl.1 rfl (Nat.le_of_ble_eq_true rfl) dX4_time_152 ⟨Nat.zero_le _, Nat.zero_le _⟩ (fun r35 _ H locs hw34 hP hD hS => ?_)
                  have hP : va_P D vwCl (kX4 cB cI mo mb ma w_zf w_nf w_hf w_cf w_sp w_pc w_on w_wt w_ht w_bg x6 w_al w_cl w_ie w_ww w_th b32 w_bs) H := hP
                  have hD : va_D A (kX4 cB cI mo mb ma w_zf w_nf w_hf w_cf w_sp w_pc w_on w_wt w_ht w_bg x6 w_al w_cl w_ie w_ww w_th b32 w_bs) := hD
                  have hf := hf.trans (kE1 hw34)
                  refine lv_iconst (v := 4) hx hb dX4_time_155 (by decide) ?_
                  refine lv_ior hx hb dX4_time_156 ?_
                  refine kc_Vv (wr := []) (As := [.int (65295 : Int32), .int (r35 ||| (4 : Int32))]) (rest := []) (fun u9 => (kX4 cB cI mo mb ma w_zf w_nf w_hf w_cf w_sp w_pc w_on w_wt w_ht w_bg x6 w_al w_cl w_ie w_ww w_th u9 w_bs)) ⟨hx, hb, hml, hown, hws⟩ hK hP hD hS hA hT (c_X4_puts l D cB cI mo mb ma H.size w_zf w_nf w_hf w_cf w_sp w_pc w_on w_wt w_ht w_bg x6 w_al w_cl w_ie w_ww w_th b32 w_bs (65295 : Int32) (r35 ||| (4 : Int32))) (cwV 2 hws (gw_V mw_62 mw_63 mw_64 mw_5 mw_65) rfl rfl rfl hdX4_puts ⟨Nat.le_of_ble_eq_true rfl, Nat.le_of_ble_eq_true rfl⟩) [0, 1, 2] [] [0, 1] [0, 1, 2] rfl rfl rfl rfl (by decide) rfl (fun _ => rfl) rfl 0 rfl rfl rfl rfl hl.1 rfl (Nat.le_of_ble_eq_true rfl) dX4_time_157 ⟨Nat.zero_le _, Nat.zero_le _⟩ (fun b36 H locs hw37 hP hD hS => ?_)
                  have hP : va_P D vwCl (kX4 cB cI mo mb ma w_zf w_nf w_hf w_cf w_sp w_pc w_on w_wt w_ht w_bg x6 w_al w_cl w_ie w_ww w_th b36 w_bs) H := hP
                  have hD : va_D A (kX4 cB cI mo mb ma w_zf w_nf w_hf w_cf w_sp w_pc w_on w_wt w_ht w_bg x6 w_al w_cl w_ie w_ww w_th b36 w_bs) := hD
                  have hf := hf.trans (kE1 hw37)
                  exact J39 b36 hf.symm H locs ls (lv_sub hl [0, 1, 2, 3] rfl) hP hD hS
              · have hf := hf.trans (kf_eq c22)
                refine lv_goto (tgt := 160) hx hb dX4_time_108 (by decide) ?_
                exact J39 b12 hf.symm H locs ls (lv_sub hl [0, 1, 2, 3] rfl) hP hD hS
          have hf := hTJ20
          refine lv_if_ne (tgt := 67) hx hb dX4_time_58 (by decide) (fun c16 => ?_) (fun c16 => ?_)
          · have hf := hf.trans (kf_eq c16)
            refine lv_iload_n hx hb dX4_time_67 rfl (lv_at hl 0 rfl) ?_
            refine lv_iconst (v := 4) hx hb dX4_time_68 (by decide) ?_
            refine lv_irem hx hb dX4_time_69 (by decide) ?_
            refine lv_iconst (v := 1) hx hb dX4_time_70 (by decide) ?_
            refine lv_icmp_ne (tgt := 78) hx hb dX4_time_71 (by decide) (fun c17 => ?_) (fun c17 => ?_)
            · have hf := hf.trans (kf_eq c17)
              refine lv_iload_n hx hb dX4_time_78 rfl (lv_at hl 0 rfl) ?_
              refine lv_iconst (v := 4) hx hb dX4_time_79 (by decide) ?_
              refine lv_irem hx hb dX4_time_80 (by decide) ?_
              refine lv_iconst (v := 2) hx hb dX4_time_81 (by decide) ?_
              refine lv_icmp_ne (tgt := 90) hx hb dX4_time_82 (by decide) (fun c18 => ?_) (fun c18 => ?_)
              · have hf := hf.trans (kf_eq c18)
                refine lv_bipush (v := 64) hx hb dX4_time_90 (by decide) ?_
                exact J20 (64 : Int32) hf.symm H locs ls (lv_sub hl [0, 1, 2] rfl) hP hD hS
              · have hf := hf.trans (kt_eq c18)
                refine lv_bipush (v := 16) hx hb dX4_time_85 (by decide) ?_
                refine lv_goto (tgt := 92) hx hb dX4_time_87 (by decide) ?_
                exact J20 (16 : Int32) hf.symm H locs ls (lv_sub hl [0, 1, 2] rfl) hP hD hS
            · have hf := hf.trans (kt_eq c17)
              refine lv_iconst (v := 4) hx hb dX4_time_74 (by decide) ?_
              refine lv_goto (tgt := 92) hx hb dX4_time_75 (by decide) ?_
              exact J20 (4 : Int32) hf.symm H locs ls (lv_sub hl [0, 1, 2] rfl) hP hD hS
          · have hf := hf.trans (kt_eq c16)
            refine lv_sipush (v := 256) hx hb dX4_time_61 (by decide) ?_
            refine lv_goto (tgt := 92) hx hb dX4_time_64 (by decide) ?_
            exact J20 (256 : Int32) hf.symm H locs ls (lv_sub hl [0, 1, 2] rfl) hP hD hS
        have hf := hTJ13
        refine lv_if_ne (tgt := 48) hx hb dX4_time_31 (by decide) (fun c7 => ?_) (fun c7 => ?_)
        · have hf := hf.trans (kf_eq c7)
          exact J13 b3 hf.symm H locs ls (lv_sub hl [0, 1] rfl) hP hD hS
        · have hf := hf.trans (kt_eq c7)
          refine lv_aload_n hx hb dX4_time_34 rfl (lv_at hl 1 rfl) ?_
          refine lv_ldc (v := 65284) hx hb hown (hws _ mw_387) dX4_time_35 ?_
          refine lv_aload_n hx hb dX4_time_37 rfl (lv_at hl 1 rfl) ?_
          refine lv_ldc (v := 65284) hx hb hown (hws _ mw_387) dX4_time_38 ?_
          refine kc_Vi (wr := []) (As := [.int (65284 : Int32)]) (rest := [.int (65284 : Int32), .ref mo]) (fun _ => (kX4 cB cI mo mb ma w_zf w_nf w_hf w_cf w_sp w_pc w_on w_wt w_ht w_bg x6 w_al w_cl w_ie w_ww w_th b3 w_bs)) ⟨hx, hb, hml, hown, hws⟩ hK hP hD hS hA hT (c_X4_at l D cB cI mo mb ma H.size w_zf w_nf w_hf w_cf w_sp w_pc w_on w_wt w_ht w_bg x6 w_al w_cl w_ie w_ww w_th b3 w_bs (65284 : Int32)) (cwV 1 hws (gw_V mw_93 mw_94 mw_95 mw_5 mw_96) rfl rfl rfl hdX4_at ⟨Nat.le_of_ble_eq_true rfl, Nat.le_of_ble_eq_true rfl⟩) [0, 1, 2] [] [0, 1] [0, 1, 2] rfl rfl rfl rfl (by decide) rfl (fun _ => rfl) rfl 0 rfl rfl rfl rfl hl.1 rfl (Nat.le_of_ble_eq_true rfl) dX4_time_40 ⟨Nat.zero_le _, Nat.zero_le _⟩ (fun r9 _ H locs hw8 hP hD hS => ?_)
          have hP : va_P D vwCl (kX4 cB cI mo mb ma w_zf w_nf w_hf w_cf w_sp w_pc w_on w_wt w_ht w_bg x6 w_al w_cl w_ie w_ww w_th b3 w_bs) H := hP
          have hD : va_D A (kX4 cB cI mo mb ma w_zf w_nf w_hf w_cf w_sp w_pc w_on w_wt w_ht w_bg x6 w_al w_cl w_ie w_ww w_th b3 w_bs) := hD
          have hf := hf.trans (kE1 hw8)
          refine lv_iconst (v := 1) hx hb dX4_time_43 (by decide) ?_
          refine lv_iadd hx hb dX4_time_44 ?_
          refine kc_Vv (wr := []) (As := [.int (65284 : Int32), .int (r9 + (1 : Int32))]) (rest := []) (fun u9 => (kX4 cB cI mo mb ma w_zf w_nf w_hf w_cf w_sp w_pc w_on w_wt w_ht w_bg x6 w_al w_cl w_ie w_ww w_th u9 w_bs)) ⟨hx, hb, hml, hown, hws⟩ hK hP hD hS hA hT (c_X4_puts l D cB cI mo mb ma H.size w_zf w_nf w_hf w_cf w_sp w_pc w_on w_wt w_ht w_bg x6 w_al w_cl w_ie w_ww w_th b3 w_bs (65284 : Int32) (r9 + (1 : Int32))) (cwV 2 hws (gw_V mw_62 mw_63 mw_64 mw_5 mw_65) rfl rfl rfl hdX4_puts ⟨Nat.le_of_ble_eq_true rfl, Nat.le_of_ble_eq_true rfl⟩) [0, 1, 2] [] [0, 1] [0, 1, 2] rfl rfl rfl rfl (by decide) rfl (fun _ => rfl) rfl 0 rfl rfl rfl rfl hl.1 rfl (Nat.le_of_ble_eq_true rfl) dX4_time_45 ⟨Nat.zero_le _, Nat.zero_le _⟩ (fun b10 H locs hw11 hP hD hS => ?_)
          have hP : va_P D vwCl (kX4 cB cI mo mb ma w_zf w_nf w_hf w_cf w_sp w_pc w_on w_wt w_ht w_bg x6 w_al w_cl w_ie w_ww w_th b10 w_bs) H := hP
          have hD : va_D A (kX4 cB cI mo mb ma w_zf w_nf w_hf w_cf w_sp w_pc w_on w_wt w_ht w_bg x6 w_al w_cl w_ie w_ww w_th b10 w_bs) := hD
          have hf := hf.trans (kE1 hw11)
          exact J13 b10 hf.symm H locs ls (lv_sub hl [0, 1] rfl) hP hD hS
  exact hLp (w_cl.toNatClampNeg + 1) (0 : Int32) w_cn w_mm (kT_init w_cl.toNatClampNeg) hf H locs ls (lv_sub hl [0, 1] rfl) hP hD hS
def fX4_step (w_zf : Bool) (w_nf : Bool) (w_hf : Bool) (w_cf : Bool) (w_sp : Int32) (w_pc : Int32) (w_on : Bool) (w_wt : Bool) (w_ht : Bool) (w_bg : Bool) (w_cn : Int32) (w_al : Int32) (w_cl : Int32) (w_ie : Bool) (w_ww : Bool) (w_th : Int32) (w_mm : Nat → Int32) (w_bs : Nat → Int32)  : Int32 × Bool × Bool × Bool × Bool × Int32 × Int32 × Bool × Bool × Bool × Bool × Int32 × Int32 × Int32 × Bool × Bool × Int32 × (Nat → Int32) × (Nat → Int32) := (kU1 (fX4_at w_mm (65535 : Int32)) (fun (r2 : Int32) => (kU1 (fX4_at w_mm (65295 : Int32)) (fun (r4 : Int32) => (kU1 (((r2 &&& r4) &&& (31 : Int32))) (fun (x5 : Int32) => (kIf (kEq (bI w_on) (0 : Int32)) (kIf (kEq (bI w_ht) (0 : Int32)) (kU1 (fX4_at w_mm w_pc) (fun (r9 : Int32) => (kU1 (fX4_isNone r9) (fun (z11 : Bool) => (kIf (kEq (bI z11) (0 : Int32)) (kU15 (fX4_instruction w_zf w_nf w_hf w_cf w_sp w_pc w_on w_wt false w_bg w_cn (0 : Int32) false w_wt w_mm w_bs) (fun (b13 : Bool) (b14 : Bool) (b15 : Bool) (b16 : Bool) (b17 : Int32) (b18 : Int32) (b19 : Bool) (b20 : Bool) (b21 : Bool) (b22 : Bool) (b23 : Int32) (b24 : Int32) (b25 : Bool) (b26 : Nat → Int32) (b27 : Nat → Int32) => (kU2 (((kIf (kEq (bI w_wt) (0 : Int32)) (kIf (kEq (bI b25) (0 : Int32)) (b19, b20) (b19, true)) (kIf (kEq (bI b20) (0 : Int32)) (kIf (kEq (bI b25) (0 : Int32)) (b19, b20) (b19, true)) (true, false))) : Bool × Bool)) (fun (b33 : Bool) (b34 : Bool) => (kU3 (fX4_time b23 w_al b24 b26) (fun (b36 : Int32) (b37 : Int32) (b38 : Nat → Int32) => ((0 : Int32), b13, b14, b15, b16, b17, b18, b33, b34, b21, b22, b36, b37, b24, b25, w_wt, (0 : Int32), b38, b27))))))) ((2 : Int32), w_zf, w_nf, w_hf, w_cf, w_sp, w_pc, w_on, w_wt, w_ht, w_bg, w_cn, w_al, (0 : Int32), w_ie, w_ww, (0 : Int32), w_mm, w_bs)))))) (kIf (kEq x5 (0 : Int32)) (kU3 (fX4_time w_cn w_al (1 : Int32) w_mm) (fun (b73 : Int32) (b74 : Int32) (b75 : Nat → Int32) => ((1 : Int32), w_zf, w_nf, w_hf, w_cf, w_sp, w_pc, w_on, w_wt, w_ht, w_bg, b73, b74, (1 : Int32), w_ie, w_ww, (0 : Int32), b75, w_bs))) (kU1 (fX4_at w_mm w_pc) (fun (r42 : Int32) => (kU1 (fX4_isNone r42) (fun (z44 : Bool) => (kIf (kEq (bI z44) (0 : Int32)) (kU15 (fX4_instruction w_zf w_nf w_hf w_cf w_sp w_pc w_on w_wt false w_bg w_cn (0 : Int32) false w_wt w_mm w_bs) (fun (b46 : Bool) (b47 : Bool) (b48 : Bool) (b49 : Bool) (b50 : Int32) (b51 : Int32) (b52 : Bool) (b53 : Bool) (b54 : Bool) (b55 : Bool) (b56 : Int32) (b57 : Int32) (b58 : Bool) (b59 : Nat → Int32) (b60 : Nat → Int32) => (kU2 (((kIf (kEq (bI w_wt) (0 : Int32)) (kIf (kEq (bI b58) (0 : Int32)) (b52, b53) (b52, true)) (kIf (kEq (bI b53) (0 : Int32)) (kIf (kEq (bI b58) (0 : Int32)) (b52, b53) (b52, true)) (true, false))) : Bool × Bool)) (fun (b66 : Bool) (b67 : Bool) => (kU3 (fX4_time b56 w_al b57 b59) (fun (b69 : Int32) (b70 : Int32) (b71 : Nat → Int32) => ((0 : Int32), b46, b47, b48, b49, b50, b51, b66, b67, b54, b55, b69, b70, b57, b58, w_wt, (0 : Int32), b71, b60))))))) ((2 : Int32), w_zf, w_nf, w_hf, w_cf, w_sp, w_pc, w_on, w_wt, w_ht, w_bg, w_cn, w_al, (0 : Int32), w_ie, w_ww, (0 : Int32), w_mm, w_bs)))))))) (kIf (kLe x5 (0 : Int32)) (kIf (kEq (bI w_ht) (0 : Int32)) (kU1 (fX4_at w_mm w_pc) (fun (r80 : Int32) => (kU1 (fX4_isNone r80) (fun (z82 : Bool) => (kIf (kEq (bI z82) (0 : Int32)) (kU15 (fX4_instruction w_zf w_nf w_hf w_cf w_sp w_pc w_on w_wt false w_bg w_cn (0 : Int32) false w_wt w_mm w_bs) (fun (b84 : Bool) (b85 : Bool) (b86 : Bool) (b87 : Bool) (b88 : Int32) (b89 : Int32) (b90 : Bool) (b91 : Bool) (b92 : Bool) (b93 : Bool) (b94 : Int32) (b95 : Int32) (b96 : Bool) (b97 : Nat → Int32) (b98 : Nat → Int32) => (kU2 (((kIf (kEq (bI w_wt) (0 : Int32)) (kIf (kEq (bI b96) (0 : Int32)) (b90, b91) (b90, true)) (kIf (kEq (bI b91) (0 : Int32)) (kIf (kEq (bI b96) (0 : Int32)) (b90, b91) (b90, true)) (true, false))) : Bool × Bool)) (fun (b104 : Bool) (b105 : Bool) => (kU3 (fX4_time b94 w_al b95 b97) (fun (b107 : Int32) (b108 : Int32) (b109 : Nat → Int32) => ((0 : Int32), b84, b85, b86, b87, b88, b89, b104, b105, b92, b93, b107, b108, b95, b96, w_wt, (0 : Int32), b109, b98))))))) ((2 : Int32), w_zf, w_nf, w_hf, w_cf, w_sp, w_pc, w_on, w_wt, w_ht, w_bg, w_cn, w_al, (0 : Int32), w_ie, w_ww, (0 : Int32), w_mm, w_bs)))))) (kIf (kEq x5 (0 : Int32)) (kU3 (fX4_time w_cn w_al (1 : Int32) w_mm) (fun (b144 : Int32) (b145 : Int32) (b146 : Nat → Int32) => ((1 : Int32), w_zf, w_nf, w_hf, w_cf, w_sp, w_pc, w_on, w_wt, w_ht, w_bg, b144, b145, (1 : Int32), w_ie, w_ww, (0 : Int32), b146, w_bs))) (kU1 (fX4_at w_mm w_pc) (fun (r113 : Int32) => (kU1 (fX4_isNone r113) (fun (z115 : Bool) => (kIf (kEq (bI z115) (0 : Int32)) (kU15 (fX4_instruction w_zf w_nf w_hf w_cf w_sp w_pc w_on w_wt false w_bg w_cn (0 : Int32) false w_wt w_mm w_bs) (fun (b117 : Bool) (b118 : Bool) (b119 : Bool) (b120 : Bool) (b121 : Int32) (b122 : Int32) (b123 : Bool) (b124 : Bool) (b125 : Bool) (b126 : Bool) (b127 : Int32) (b128 : Int32) (b129 : Bool) (b130 : Nat → Int32) (b131 : Nat → Int32) => (kU2 (((kIf (kEq (bI w_wt) (0 : Int32)) (kIf (kEq (bI b129) (0 : Int32)) (b123, b124) (b123, true)) (kIf (kEq (bI b124) (0 : Int32)) (kIf (kEq (bI b129) (0 : Int32)) (b123, b124) (b123, true)) (true, false))) : Bool × Bool)) (fun (b137 : Bool) (b138 : Bool) => (kU3 (fX4_time b127 w_al b128 b130) (fun (b140 : Int32) (b141 : Int32) (b142 : Nat → Int32) => ((0 : Int32), b117, b118, b119, b120, b121, b122, b137, b138, b125, b126, b140, b141, b128, b129, w_wt, (0 : Int32), b142, b131))))))) ((2 : Int32), w_zf, w_nf, w_hf, w_cf, w_sp, w_pc, w_on, w_wt, w_ht, w_bg, w_cn, w_al, (0 : Int32), w_ie, w_ww, (0 : Int32), w_mm, w_bs)))))))) (kU7 (fX4_dispatch w_sp w_pc w_on w_ht w_cn (0 : Int32) w_mm x5) (fun (b148 : Int32) (b149 : Int32) (b150 : Bool) (b151 : Bool) (b152 : Int32) (b153 : Int32) (b154 : Nat → Int32) => (kU3 (fX4_time b152 w_al b153 b154) (fun (b156 : Int32) (b157 : Int32) (b158 : Nat → Int32) => ((0 : Int32), w_zf, w_nf, w_hf, w_cf, b148, b149, b150, w_wt, b151, w_bg, b156, b157, b153, w_ie, w_ww, (0 : Int32), b158, w_bs)))))))))))))
def rmX4_step : Room := { frames := 7, cells := 0, slots := 0, locals := 157 }
def wwX4_step : List Cond := Cond.code yX4_step cX4_step 2 (some .int) :: wsL_law
theorem hdX4_step : yX4_step.cls = RX4 ∧ yX4_step.cls ≠ "java/lang/invoke/MethodHandle" ∧ yX4_step.cls ≠ "java/lang/invoke/VarHandle" ∧ (parseMethodDescriptor yX4_step.desc).map (fun d => d.parameters.length) = some 0 := by decide +kernel
set_option maxHeartbeats 4000000 in
set_option maxRecDepth 100000 in
theorem c_X4_step (l : Launch) (D : va_G) (cB : ClassId) (cI : ClassId) (mo mb ma sz : Nat) (w_zf : Bool) (w_nf : Bool) (w_hf : Bool) (w_cf : Bool) (w_sp : Int32) (w_pc : Int32) (w_on : Bool) (w_wt : Bool) (w_ht : Bool) (w_bg : Bool) (w_cn : Int32) (w_al : Int32) (w_cl : Int32) (w_ie : Bool) (w_ww : Bool) (w_th : Int32) (w_mm : Nat → Int32) (w_bs : Nat → Int32)   : Met l yX4_step wwX4_step rmX4_step (va_Pc [.ref mo] (kp D (kX4 cB cI mo mb ma w_zf w_nf w_hf w_cf w_sp w_pc w_on w_wt w_ht w_bg w_cn w_al w_cl w_ie w_ww w_th w_mm w_bs) [(cB, .byte), (cI, .int)] sz)) (va_Qi (fun (r : Int32) (u9 : Bool × Bool × Bool × Bool × Int32 × Int32 × Bool × Bool × Bool × Bool × Int32 × Int32 × Int32 × Bool × Bool × Int32 × (Nat → Int32) × (Nat → Int32)) => (r, u9) = fX4_step w_zf w_nf w_hf w_cf w_sp w_pc w_on w_wt w_ht w_bg w_cn w_al w_cl w_ie w_ww w_th w_mm w_bs) (fun u9 t => kq D (kX4 cB cI mo mb ma (u9.1) (u9.2.1) (u9.2.2.1) (u9.2.2.2.1) (u9.2.2.2.2.1) (u9.2.2.2.2.2.1) (u9.2.2.2.2.2.2.1) (u9.2.2.2.2.2.2.2.1) (u9.2.2.2.2.2.2.2.2.1) (u9.2.2.2.2.2.2.2.2.2.1) (u9.2.2.2.2.2.2.2.2.2.2.1) (u9.2.2.2.2.2.2.2.2.2.2.2.1) (u9.2.2.2.2.2.2.2.2.2.2.2.2.1) (u9.2.2.2.2.2.2.2.2.2.2.2.2.2.1) (u9.2.2.2.2.2.2.2.2.2.2.2.2.2.2.1) (u9.2.2.2.2.2.2.2.2.2.2.2.2.2.2.2.1) (u9.2.2.2.2.2.2.2.2.2.2.2.2.2.2.2.2.1) (u9.2.2.2.2.2.2.2.2.2.2.2.2.2.2.2.2.2)) [(cB, .byte), (cI, .int)] (va_A (kX4 cB cI mo mb ma w_zf w_nf w_hf w_cf w_sp w_pc w_on w_wt w_ht w_bg w_cn w_al w_cl w_ie w_ww w_th w_mm w_bs) sz) t) (va_A (kX4 cB cI mo mb ma w_zf w_nf w_hf w_cf w_sp w_pc w_on w_wt w_ht w_bg w_cn w_al w_cl w_ie w_ww w_th w_mm w_bs) sz)) 0 0 (va_A (kX4 cB cI mo mb ma w_zf w_nf w_hf w_cf w_sp w_pc w_on w_wt w_ht w_bg w_cn w_al w_cl w_ie w_ww w_th w_mm w_bs) sz) := by
  refine Met.ofW (cc := cX4_step) (maxL := 2) (ret := (some .int)) (by decide) rfl ?_
  intro p e s m args below meth c s₁ B hml hv
  obtain ⟨rfl, hsz, hP, hK, hD0, hT⟩ := hv
  have hx := B.exec
  have hb := B.bytes
  have hr := B.returns
  have hts := atoms_spec (ws := wwX4_step) B.pre
  have hws : ∀ w ∈ wsL_law, w.before _ s = true := fun w h => hts w (List.mem_cons_of_mem _ h)
  have hown : s.vm.findClass RX4 = some m.cls := findClass_of_methodNamed B.named
  have hlocks := B.notSynchronized
  subst hsz
  have hD := hD0.self (sz := s.heap.size)
  generalize hAe : va_A (kX4 cB cI mo mb ma w_zf w_nf w_hf w_cf w_sp w_pc w_on w_wt w_ht w_bg w_cn w_al w_cl w_ie w_ww w_th w_mm w_bs) s.heap.size = A at hD hT ⊢
  have hA : ∀ q : Nat, s.heap.size ≤ q → A q := fun q h => by rw [← hAe]; exact Or.inr h
  have hS : va_S A s.heap s.heap [] := va_S.rf
  have hl := lv_entry ([.ref mo]) (n := 2) (Nat.le_of_ble_eq_true rfl)
  rw [lg_entry_eq]
  generalize (lg_sl ([.ref mo]) ++ List.replicate (2 - (lg_sl ([.ref mo])).length) Slot.unset).toArray = ls at hl ⊢
  have hl : lv_has ls 2 [(0, .ref mo)] := hl
  generalize hQ : MQ _ _ _ _ _ _ _ = Q
  obtain ⟨H, hHe⟩ : ∃ H : Heap, H = s.heap := ⟨_, rfl⟩
  obtain ⟨locs, hle⟩ : ∃ L : List Loc, L = [] := ⟨_, rfl⟩
  have hP : va_P D vwCl (kX4 cB cI mo mb ma w_zf w_nf w_hf w_cf w_sp w_pc w_on w_wt w_ht w_bg w_cn w_al w_cl w_ie w_ww w_th w_mm w_bs) H := by rw [hHe]; exact hP
  have hS : va_S A s.heap H locs := by rw [hHe, hle]; exact hS
  refine kw_start hHe.symm hle.symm ?_
  have hf : fX4_step w_zf w_nf w_hf w_cf w_sp w_pc w_on w_wt w_ht w_bg w_cn w_al w_cl w_ie w_ww w_th w_mm w_bs = fX4_step w_zf w_nf w_hf w_cf w_sp w_pc w_on w_wt w_ht w_bg w_cn w_al w_cl w_ie w_ww w_th w_mm w_bs := rfl
  refine lv_aload_n hx hb dX4_step_0 rfl (lv_at hl 0 rfl) ?_
  refine lv_iconst (v := 0) hx hb dX4_step_1 (by decide) ?_
  refine va_put (D := D) (ci := 4) (v := .int (0 : Int32)) (ty := .int) (C := RX4) (T := TX4) (N := 18) hx hb hws inlX4 tyX4 tyX4_ok nmX4 hown hK hP hD hS 0 rfl rfl 17 (by decide) (hws _ mw_60) (fun _ h9 => h9) rfl (tyX4_ok 17 (by decide)) rfl rfl (Nat.le_of_ble_eq_true rfl) dX4_step_2 (fun H locs hP hD hS => ?_)
  have hP : va_P D vwCl (kX4 cB cI mo mb ma w_zf w_nf w_hf w_cf w_sp w_pc w_on w_wt w_ht w_bg w_cn w_al w_cl w_ie w_ww (0 : Int32) w_mm w_bs) H := hP
  have hD : va_D A (kX4 cB cI mo mb ma w_zf w_nf w_hf w_cf w_sp w_pc w_on w_wt w_ht w_bg w_cn w_al w_cl w_ie w_ww (0 : Int32) w_mm w_bs) := hD
  refine lv_aload_n hx hb dX4_step_5 rfl (lv_at hl 0 rfl) ?_
  refine lv_ldc (v := 65535) hx hb hown (hws _ mw_61) dX4_step_6 ?_
  refine kc_Vi (wr := []) (As := [.int (65535 : Int32)]) (rest := []) (fun _ => (kX4 cB cI mo mb ma w_zf w_nf w_hf w_cf w_sp w_pc w_on w_wt w_ht w_bg w_cn w_al w_cl w_ie w_ww (0 : Int32) w_mm w_bs)) ⟨hx, hb, hml, hown, hws⟩ hK hP hD hS hA hT (c_X4_at l D cB cI mo mb ma H.size w_zf w_nf w_hf w_cf w_sp w_pc w_on w_wt w_ht w_bg w_cn w_al w_cl w_ie w_ww (0 : Int32) w_mm w_bs (65535 : Int32)) (cwV 1 hws (gw_V mw_93 mw_94 mw_95 mw_5 mw_96) rfl rfl rfl hdX4_at ⟨Nat.le_of_ble_eq_true rfl, Nat.le_of_ble_eq_true rfl⟩) [0, 1, 2] [] [0, 1] [0, 1, 2] rfl rfl rfl rfl (by decide) rfl (fun _ => rfl) rfl 0 rfl rfl rfl rfl hl.1 rfl (Nat.le_of_ble_eq_true rfl) dX4_step_8 ⟨Nat.zero_le _, Nat.zero_le _⟩ (fun r2 _ H locs hw1 hP hD hS => ?_)
  have hP : va_P D vwCl (kX4 cB cI mo mb ma w_zf w_nf w_hf w_cf w_sp w_pc w_on w_wt w_ht w_bg w_cn w_al w_cl w_ie w_ww (0 : Int32) w_mm w_bs) H := hP
  have hD : va_D A (kX4 cB cI mo mb ma w_zf w_nf w_hf w_cf w_sp w_pc w_on w_wt w_ht w_bg w_cn w_al w_cl w_ie w_ww (0 : Int32) w_mm w_bs) := hD
  have hf := hf.trans (kE1 hw1)
  refine lv_aload_n hx hb dX4_step_11 rfl (lv_at hl 0 rfl) ?_
  refine lv_ldc (v := 65295) hx hb hown (hws _ mw_366) dX4_step_12 ?_
  refine kc_Vi (wr := []) (As := [.int (65295 : Int32)]) (rest := [.int r2]) (fun _ => (kX4 cB cI mo mb ma w_zf w_nf w_hf w_cf w_sp w_pc w_on w_wt w_ht w_bg w_cn w_al w_cl w_ie w_ww (0 : Int32) w_mm w_bs)) ⟨hx, hb, hml, hown, hws⟩ hK hP hD hS hA hT (c_X4_at l D cB cI mo mb ma H.size w_zf w_nf w_hf w_cf w_sp w_pc w_on w_wt w_ht w_bg w_cn w_al w_cl w_ie w_ww (0 : Int32) w_mm w_bs (65295 : Int32)) (cwV 1 hws (gw_V mw_93 mw_94 mw_95 mw_5 mw_96) rfl rfl rfl hdX4_at ⟨Nat.le_of_ble_eq_true rfl, Nat.le_of_ble_eq_true rfl⟩) [0, 1, 2] [] [0, 1] [0, 1, 2] rfl rfl rfl rfl (by decide) rfl (fun _ => rfl) rfl 0 rfl rfl rfl rfl hl.1 rfl (Nat.le_of_ble_eq_true rfl) dX4_step_14 ⟨Nat.zero_le _, Nat.zero_le _⟩ (fun r4 _ H locs hw3 hP hD hS => ?_)
  have hP : va_P D vwCl (kX4 cB cI mo mb ma w_zf w_nf w_hf w_cf w_sp w_pc w_on w_wt w_ht w_bg w_cn w_al w_cl w_ie w_ww (0 : Int32) w_mm w_bs) H := hP
  have hD : va_D A (kX4 cB cI mo mb ma w_zf w_nf w_hf w_cf w_sp w_pc w_on w_wt w_ht w_bg w_cn w_al w_cl w_ie w_ww (0 : Int32) w_mm w_bs) := hD
  have hf := hf.trans (kE1 hw3)
  refine lv_iand hx hb dX4_step_17 ?_
  refine lv_bipush (v := 31) hx hb dX4_step_18 (by decide) ?_
  refine lv_iand hx hb dX4_step_20 ?_
  refine lv_topi (fun x5 ex5 => ?_)
  have hf := hf.trans (kE1 ex5)
  refine lv_istore_n (lv' := [(1, .int x5), (0, .ref mo)]) hx hb dX4_step_21 rfl hl (by decide) rfl (fun ls hl => ?_)
  refine lv_aload_n hx hb dX4_step_22 rfl (lv_at hl 1 rfl) ?_
  refine lv_iconst (v := 0) hx hb dX4_step_23 (by decide) ?_
  refine va_put (D := D) (ci := 4) (v := .int (0 : Int32)) (ty := .int) (C := RX4) (T := TX4) (N := 18) hx hb hws inlX4 tyX4 tyX4_ok nmX4 hown hK hP hD hS 0 rfl rfl 14 (by decide) (hws _ mw_367) (fun _ h9 => h9) rfl (tyX4_ok 14 (by decide)) rfl rfl (Nat.le_of_ble_eq_true rfl) dX4_step_24 (fun H locs hP hD hS => ?_)
  have hP : va_P D vwCl (kX4 cB cI mo mb ma w_zf w_nf w_hf w_cf w_sp w_pc w_on w_wt w_ht w_bg w_cn w_al (0 : Int32) w_ie w_ww (0 : Int32) w_mm w_bs) H := hP
  have hD : va_D A (kX4 cB cI mo mb ma w_zf w_nf w_hf w_cf w_sp w_pc w_on w_wt w_ht w_bg w_cn w_al (0 : Int32) w_ie w_ww (0 : Int32) w_mm w_bs) := hD
  refine lv_aload_n hx hb dX4_step_27 rfl (lv_at hl 1 rfl) ?_
  refine va_get (D := D) (ci := 4) (v := .int (bI w_on)) (C := RX4) (T := TX4) (N := 18) hx hb hws inlX4 hown hK hP 0 rfl rfl 8 (by decide) (hws _ mw_368) (fun _ h9 => h9) rfl dX4_step_28 ?_
  refine lv_if_eq (tgt := 46) hx hb dX4_step_31 (by decide) (fun c6 => ?_) (fun c6 => ?_)
  · have hf := hf.trans (kt_eq c6)
    refine lv_aload_n hx hb dX4_step_46 rfl (lv_at hl 1 rfl) ?_
    refine va_get (D := D) (ci := 4) (v := .int (bI w_ht)) (C := RX4) (T := TX4) (N := 18) hx hb hws inlX4 hown hK hP 0 rfl rfl 10 (by decide) (hws _ mw_369) (fun _ h9 => h9) rfl dX4_step_47 ?_
    refine lv_if_eq (tgt := 68) hx hb dX4_step_50 (by decide) (fun c7 => ?_) (fun c7 => ?_)
    · have hf := hf.trans (kt_eq c7)
      refine lv_aload_n hx hb dX4_step_68 rfl (lv_at hl 1 rfl) ?_
      refine lv_aload_n hx hb dX4_step_69 rfl (lv_at hl 1 rfl) ?_
      refine va_get (D := D) (ci := 4) (v := .int w_pc) (C := RX4) (T := TX4) (N := 18) hx hb hws inlX4 hown hK hP 0 rfl rfl 7 (by decide) (hws _ mw_370) (fun _ h9 => h9) rfl dX4_step_70 ?_
      refine kc_Vi (wr := []) (As := [.int w_pc]) (rest := []) (fun _ => (kX4 cB cI mo mb ma w_zf w_nf w_hf w_cf w_sp w_pc w_on w_wt w_ht w_bg w_cn w_al (0 : Int32) w_ie w_ww (0 : Int32) w_mm w_bs)) ⟨hx, hb, hml, hown, hws⟩ hK hP hD hS hA hT (c_X4_at l D cB cI mo mb ma H.size w_zf w_nf w_hf w_cf w_sp w_pc w_on w_wt w_ht w_bg w_cn w_al (0 : Int32) w_ie w_ww (0 : Int32) w_mm w_bs w_pc) (cwV 1 hws (gw_V mw_93 mw_94 mw_95 mw_5 mw_96) rfl rfl rfl hdX4_at ⟨Nat.le_of_ble_eq_true rfl, Nat.le_of_ble_eq_true rfl⟩) [0, 1, 2] [] [0, 1] [0, 1, 2] rfl rfl rfl rfl (by decide) rfl (fun _ => rfl) rfl 0 rfl rfl rfl rfl hl.1 rfl (Nat.le_of_ble_eq_true rfl) dX4_step_73 ⟨Nat.zero_le _, Nat.zero_le _⟩ (fun r9 _ H locs hw8 hP hD hS => ?_)
      have hP : va_P D vwCl (kX4 cB cI mo mb ma w_zf w_nf w_hf w_cf w_sp w_pc w_on w_wt w_ht w_bg w_cn w_al (0 : Int32) w_ie w_ww (0 : Int32) w_mm w_bs) H := hP
      have hD : va_D A (kX4 cB cI mo mb ma w_zf w_nf w_hf w_cf w_sp w_pc w_on w_wt w_ht w_bg w_cn w_al (0 : Int32) w_ie w_ww (0 : Int32) w_mm w_bs) := hD
      have hf := hf.trans (kE1 hw8)
      refine kc_Si (As := [.int r9]) (rest := []) ⟨hx, hb, hml, hown, hws⟩ hK hP hD hS hA hT (c_X4_isNone l D H.size r9) (va_cwS 1 hws (gw_S mw_398 mw_399 mw_5 mw_400) rfl rfl rfl hdX4_isNone.2 ⟨Nat.le_of_ble_eq_true rfl, Nat.le_of_ble_eq_true rfl⟩) rfl hl.1 rfl (Nat.le_of_ble_eq_true rfl) dX4_step_76 ⟨Nat.zero_le _, Nat.zero_le _⟩ (fun r10 H locs hwr10 hP hD hS => ?_)
      obtain ⟨z11, rfl, hwr10⟩ := hwr10
      have hf := hf.trans (kE1 hwr10)
      refine lv_if_eq (tgt := 84) hx hb dX4_step_79 (by decide) (fun c12 => ?_) (fun c12 => ?_)
      · have hf := hf.trans (kt_eq c12)
        refine lv_aload_n hx hb dX4_step_84 rfl (lv_at hl 1 rfl) ?_
        refine lv_iconst (v := 0) hx hb dX4_step_85 (by decide) ?_
        refine va_put (D := D) (ci := 4) (v := .int (bI false)) (ty := .boolean) (C := RX4) (T := TX4) (N := 18) hx hb hws inlX4 tyX4 tyX4_ok nmX4 hown hK hP hD hS 0 rfl rfl 10 (by decide) (hws _ mw_369) (fun _ h9 => h9) rfl (tyX4_ok 10 (by decide)) (bI_nar _) (bI_fit _) (Nat.le_of_ble_eq_true rfl) dX4_step_86 (fun H locs hP hD hS => ?_)
        have hP : va_P D vwCl (kX4 cB cI mo mb ma w_zf w_nf w_hf w_cf w_sp w_pc w_on w_wt false w_bg w_cn w_al (0 : Int32) w_ie w_ww (0 : Int32) w_mm w_bs) H := hP
        have hD : va_D A (kX4 cB cI mo mb ma w_zf w_nf w_hf w_cf w_sp w_pc w_on w_wt false w_bg w_cn w_al (0 : Int32) w_ie w_ww (0 : Int32) w_mm w_bs) := hD
        refine lv_aload_n hx hb dX4_step_89 rfl (lv_at hl 1 rfl) ?_
        refine lv_aload_n hx hb dX4_step_90 rfl (lv_at hl 1 rfl) ?_
        refine va_get (D := D) (ci := 4) (v := .int (bI w_wt)) (C := RX4) (T := TX4) (N := 18) hx hb hws inlX4 hown hK hP 0 rfl rfl 9 (by decide) (hws _ mw_371) (fun _ h9 => h9) rfl dX4_step_91 ?_
        refine va_put (D := D) (ci := 4) (v := .int (bI w_wt)) (ty := .boolean) (C := RX4) (T := TX4) (N := 18) hx hb hws inlX4 tyX4 tyX4_ok nmX4 hown hK hP hD hS 0 rfl rfl 16 (by decide) (hws _ mw_372) (fun _ h9 => h9) rfl (tyX4_ok 16 (by decide)) (bI_nar _) (bI_fit _) (Nat.le_of_ble_eq_true rfl) dX4_step_94 (fun H locs hP hD hS => ?_)
        have hP : va_P D vwCl (kX4 cB cI mo mb ma w_zf w_nf w_hf w_cf w_sp w_pc w_on w_wt false w_bg w_cn w_al (0 : Int32) w_ie w_wt (0 : Int32) w_mm w_bs) H := hP
        have hD : va_D A (kX4 cB cI mo mb ma w_zf w_nf w_hf w_cf w_sp w_pc w_on w_wt false w_bg w_cn w_al (0 : Int32) w_ie w_wt (0 : Int32) w_mm w_bs) := hD
        refine lv_aload_n hx hb dX4_step_97 rfl (lv_at hl 1 rfl) ?_
        refine lv_iconst (v := 0) hx hb dX4_step_98 (by decide) ?_
        refine va_put (D := D) (ci := 4) (v := .int (bI false)) (ty := .boolean) (C := RX4) (T := TX4) (N := 18) hx hb hws inlX4 tyX4 tyX4_ok nmX4 hown hK hP hD hS 0 rfl rfl 15 (by decide) (hws _ mw_373) (fun _ h9 => h9) rfl (tyX4_ok 15 (by decide)) (bI_nar _) (bI_fit _) (Nat.le_of_ble_eq_true rfl) dX4_step_99 (fun H locs hP hD hS => ?_)
        have hP : va_P D vwCl (kX4 cB cI mo mb ma w_zf w_nf w_hf w_cf w_sp w_pc w_on w_wt false w_bg w_cn w_al (0 : Int32) false w_wt (0 : Int32) w_mm w_bs) H := hP
        have hD : va_D A (kX4 cB cI mo mb ma w_zf w_nf w_hf w_cf w_sp w_pc w_on w_wt false w_bg w_cn w_al (0 : Int32) false w_wt (0 : Int32) w_mm w_bs) := hD
        refine lv_aload_n hx hb dX4_step_102 rfl (lv_at hl 1 rfl) ?_
        refine kc_Vv (wr := []) (As := []) (rest := []) (fun u9 => (kX4 cB cI mo mb ma (u9.1) (u9.2.1) (u9.2.2.1) (u9.2.2.2.1) (u9.2.2.2.2.1) (u9.2.2.2.2.2.1) (u9.2.2.2.2.2.2.1) (u9.2.2.2.2.2.2.2.1) (u9.2.2.2.2.2.2.2.2.1) (u9.2.2.2.2.2.2.2.2.2.1) (u9.2.2.2.2.2.2.2.2.2.2.1) w_al (u9.2.2.2.2.2.2.2.2.2.2.2.1) (u9.2.2.2.2.2.2.2.2.2.2.2.2.1) w_wt (0 : Int32) (u9.2.2.2.2.2.2.2.2.2.2.2.2.2.1) (u9.2.2.2.2.2.2.2.2.2.2.2.2.2.2))) ⟨hx, hb, hml, hown, hws⟩ hK hP hD hS hA hT (c_X4_instruction l D cB cI mo mb ma H.size w_zf w_nf w_hf w_cf w_sp w_pc w_on w_wt false w_bg w_cn w_al (0 : Int32) false w_wt (0 : Int32) w_mm w_bs ) (cwV 0 hws (gw_V mw_401 mw_402 mw_403 mw_5 mw_404) rfl rfl rfl hdX4_instruction ⟨Nat.le_of_ble_eq_true rfl, Nat.le_of_ble_eq_true rfl⟩) [0, 1, 2] [] [0, 1] [0, 1, 2] rfl rfl rfl rfl (by decide) rfl (fun _ => rfl) rfl 0 rfl rfl rfl rfl hl.1 rfl (Nat.le_of_ble_eq_true rfl) dX4_step_103 ⟨Nat.zero_le _, Nat.zero_le _⟩ (fun u9 H locs hw28 hP hD hS => ?_)
        obtain ⟨b13, b14, b15, b16, b17, b18, b19, b20, b21, b22, b23, b24, b25, b26, b27⟩ := u9
        have hP : va_P D vwCl (kX4 cB cI mo mb ma b13 b14 b15 b16 b17 b18 b19 b20 b21 b22 b23 w_al b24 b25 w_wt (0 : Int32) b26 b27) H := hP
        have hD : va_D A (kX4 cB cI mo mb ma b13 b14 b15 b16 b17 b18 b19 b20 b21 b22 b23 w_al b24 b25 w_wt (0 : Int32) b26 b27) := hD
        have hf := hf.trans (kE15 hw28)
        refine lv_aload_n hx hb dX4_step_106 rfl (lv_at hl 1 rfl) ?_
        refine va_get (D := D) (ci := 4) (v := .int (bI w_wt)) (C := RX4) (T := TX4) (N := 18) hx hb hws inlX4 hown hK hP 0 rfl rfl 16 (by decide) (hws _ mw_372) (fun _ h9 => h9) rfl dX4_step_107 ?_
        obtain ⟨TJ35, hTJ35⟩ : ∃ T9 : Bool × Bool, T9 = (kIf (kEq (bI w_wt) (0 : Int32)) (kIf (kEq (bI b25) (0 : Int32)) (b19, b20) (b19, true)) (kIf (kEq (bI b20) (0 : Int32)) (kIf (kEq (bI b25) (0 : Int32)) (b19, b20) (b19, true)) (true, false))) := ⟨_, rfl⟩
        have J35 : ∀ (b33 : Bool) (b34 : Bool), (b33, b34) = TJ35 → ∀ (H : Heap) (locs : List Loc) (ls : Array Slot), lv_has ls 2 [(1, .int x5), (0, .ref mo)] → va_P D vwCl (kX4 cB cI mo mb ma b13 b14 b15 b16 b17 b18 b33 b34 b21 b22 b23 w_al b24 b25 w_wt (0 : Int32) b26 b27) H → va_D A (kX4 cB cI mo mb ma b13 b14 b15 b16 b17 b18 b33 b34 b21 b22 b23 w_al b24 b25 w_wt (0 : Int32) b26 b27) → va_S A s.heap H locs → W p l e (headSpec wwX4_step rmX4_step).room s m ([.ref mo] : List Value).toArray below meth c H locs 0 0 Q (F0 m 145 ls []) := by
          intro b33 b34 eJ35 H locs ls hl hP hD hS
          have hf := hf.trans (kE2 (eJ35.trans hTJ35))
          refine lv_aload_n hx hb dX4_step_145 rfl (lv_at hl 1 rfl) ?_
          refine kc_Vv (wr := []) (As := []) (rest := []) (fun u9 => (kX4 cB cI mo mb ma b13 b14 b15 b16 b17 b18 b33 b34 b21 b22 (u9.1) (u9.2.1) b24 b25 w_wt (0 : Int32) (u9.2.2) b27)) ⟨hx, hb, hml, hown, hws⟩ hK hP hD hS hA hT (c_X4_time l D cB cI mo mb ma H.size b13 b14 b15 b16 b17 b18 b33 b34 b21 b22 b23 w_al b24 b25 w_wt (0 : Int32) b26 b27 ) (cwV 0 hws (gw_V mw_389 mw_390 mw_391 mw_5 mw_392) rfl rfl rfl hdX4_time ⟨Nat.le_of_ble_eq_true rfl, Nat.le_of_ble_eq_true rfl⟩) [0, 1, 2] [] [0, 1] [0, 1, 2] rfl rfl rfl rfl (by decide) rfl (fun _ => rfl) rfl 0 rfl rfl rfl rfl hl.1 rfl (Nat.le_of_ble_eq_true rfl) dX4_step_146 ⟨Nat.zero_le _, Nat.zero_le _⟩ (fun u9 H locs hw39 hP hD hS => ?_)
          obtain ⟨b36, b37, b38⟩ := u9
          have hP : va_P D vwCl (kX4 cB cI mo mb ma b13 b14 b15 b16 b17 b18 b33 b34 b21 b22 b36 b37 b24 b25 w_wt (0 : Int32) b38 b27) H := hP
          have hD : va_D A (kX4 cB cI mo mb ma b13 b14 b15 b16 b17 b18 b33 b34 b21 b22 b36 b37 b24 b25 w_wt (0 : Int32) b38 b27) := hD
          have hf := hf.trans (kE3 hw39)
          refine lv_iconst (v := 0) hx hb dX4_step_149 (by decide) ?_
          rw [← hQ]
          exact W.iret (v := (0 : Int32)) hx hb hr (fun t ht hW => ⟨⟨(0 : Int32), (b13, b14, b15, b16, b17, b18, b33, b34, b21, b22, b36, b37, b24, b25, w_wt, (0 : Int32), b38, b27), rfl, hf.symm, by rw [ht]; exact hP, va_K.moved hW.alike hK, hD⟩, hS.F ht⟩) hS.2.2 dX4_step_150
        have hf := hTJ35
        refine lv_if_eq (tgt := 133) hx hb dX4_step_110 (by decide) (fun c29 => ?_) (fun c29 => ?_)
        · have hf := hf.trans (kt_eq c29)
          refine lv_aload_n hx hb dX4_step_133 rfl (lv_at hl 1 rfl) ?_
          refine va_get (D := D) (ci := 4) (v := .int (bI b25)) (C := RX4) (T := TX4) (N := 18) hx hb hws inlX4 hown hK hP 0 rfl rfl 15 (by decide) (hws _ mw_373) (fun _ h9 => h9) rfl dX4_step_134 ?_
          refine lv_if_eq (tgt := 145) hx hb dX4_step_137 (by decide) (fun c30 => ?_) (fun c30 => ?_)
          · have hf := hf.trans (kt_eq c30)
            exact J35 b19 b20 hf.symm H locs ls (lv_sub hl [0, 1] rfl) hP hD hS
          · have hf := hf.trans (kf_eq c30)
            refine lv_aload_n hx hb dX4_step_140 rfl (lv_at hl 1 rfl) ?_
            refine lv_iconst (v := 1) hx hb dX4_step_141 (by decide) ?_
            refine va_put (D := D) (ci := 4) (v := .int (bI true)) (ty := .boolean) (C := RX4) (T := TX4) (N := 18) hx hb hws inlX4 tyX4 tyX4_ok nmX4 hown hK hP hD hS 0 rfl rfl 9 (by decide) (hws _ mw_371) (fun _ h9 => h9) rfl (tyX4_ok 9 (by decide)) (bI_nar _) (bI_fit _) (Nat.le_of_ble_eq_true rfl) dX4_step_142 (fun H locs hP hD hS => ?_)
            have hP : va_P D vwCl (kX4 cB cI mo mb ma b13 b14 b15 b16 b17 b18 b19 true b21 b22 b23 w_al b24 b25 w_wt (0 : Int32) b26 b27) H := hP
            have hD : va_D A (kX4 cB cI mo mb ma b13 b14 b15 b16 b17 b18 b19 true b21 b22 b23 w_al b24 b25 w_wt (0 : Int32) b26 b27) := hD
            exact J35 b19 true hf.symm H locs ls (lv_sub hl [0, 1] rfl) hP hD hS
        · have hf := hf.trans (kf_eq c29)
          refine lv_aload_n hx hb dX4_step_113 rfl (lv_at hl 1 rfl) ?_
          refine va_get (D := D) (ci := 4) (v := .int (bI b20)) (C := RX4) (T := TX4) (N := 18) hx hb hws inlX4 hown hK hP 0 rfl rfl 9 (by decide) (hws _ mw_371) (fun _ h9 => h9) rfl dX4_step_114 ?_
          refine lv_if_eq (tgt := 133) hx hb dX4_step_117 (by decide) (fun c31 => ?_) (fun c31 => ?_)
          · have hf := hf.trans (kt_eq c31)
            refine lv_aload_n hx hb dX4_step_133 rfl (lv_at hl 1 rfl) ?_
            refine va_get (D := D) (ci := 4) (v := .int (bI b25)) (C := RX4) (T := TX4) (N := 18) hx hb hws inlX4 hown hK hP 0 rfl rfl 15 (by decide) (hws _ mw_373) (fun _ h9 => h9) rfl dX4_step_134 ?_
            refine lv_if_eq (tgt := 145) hx hb dX4_step_137 (by decide) (fun c32 => ?_) (fun c32 => ?_)
            · have hf := hf.trans (kt_eq c32)
              exact J35 b19 b20 hf.symm H locs ls (lv_sub hl [0, 1] rfl) hP hD hS
            · have hf := hf.trans (kf_eq c32)
              refine lv_aload_n hx hb dX4_step_140 rfl (lv_at hl 1 rfl) ?_
              refine lv_iconst (v := 1) hx hb dX4_step_141 (by decide) ?_
              refine va_put (D := D) (ci := 4) (v := .int (bI true)) (ty := .boolean) (C := RX4) (T := TX4) (N := 18) hx hb hws inlX4 tyX4 tyX4_ok nmX4 hown hK hP hD hS 0 rfl rfl 9 (by decide) (hws _ mw_371) (fun _ h9 => h9) rfl (tyX4_ok 9 (by decide)) (bI_nar _) (bI_fit _) (Nat.le_of_ble_eq_true rfl) dX4_step_142 (fun H locs hP hD hS => ?_)
              have hP : va_P D vwCl (kX4 cB cI mo mb ma b13 b14 b15 b16 b17 b18 b19 true b21 b22 b23 w_al b24 b25 w_wt (0 : Int32) b26 b27) H := hP
              have hD : va_D A (kX4 cB cI mo mb ma b13 b14 b15 b16 b17 b18 b19 true b21 b22 b23 w_al b24 b25 w_wt (0 : Int32) b26 b27) := hD
              exact J35 b19 true hf.symm H locs ls (lv_sub hl [0, 1] rfl) hP hD hS
          · have hf := hf.trans (kf_eq c31)
            refine lv_aload_n hx hb dX4_step_120 rfl (lv_at hl 1 rfl) ?_
            refine lv_iconst (v := 0) hx hb dX4_step_121 (by decide) ?_
            refine va_put (D := D) (ci := 4) (v := .int (bI false)) (ty := .boolean) (C := RX4) (T := TX4) (N := 18) hx hb hws inlX4 tyX4 tyX4_ok nmX4 hown hK hP hD hS 0 rfl rfl 9 (by decide) (hws _ mw_371) (fun _ h9 => h9) rfl (tyX4_ok 9 (by decide)) (bI_nar _) (bI_fit _) (Nat.le_of_ble_eq_true rfl) dX4_step_122 (fun H locs hP hD hS => ?_)
            have hP : va_P D vwCl (kX4 cB cI mo mb ma b13 b14 b15 b16 b17 b18 b19 false b21 b22 b23 w_al b24 b25 w_wt (0 : Int32) b26 b27) H := hP
            have hD : va_D A (kX4 cB cI mo mb ma b13 b14 b15 b16 b17 b18 b19 false b21 b22 b23 w_al b24 b25 w_wt (0 : Int32) b26 b27) := hD
            refine lv_aload_n hx hb dX4_step_125 rfl (lv_at hl 1 rfl) ?_
            refine lv_iconst (v := 1) hx hb dX4_step_126 (by decide) ?_
            refine va_put (D := D) (ci := 4) (v := .int (bI true)) (ty := .boolean) (C := RX4) (T := TX4) (N := 18) hx hb hws inlX4 tyX4 tyX4_ok nmX4 hown hK hP hD hS 0 rfl rfl 8 (by decide) (hws _ mw_368) (fun _ h9 => h9) rfl (tyX4_ok 8 (by decide)) (bI_nar _) (bI_fit _) (Nat.le_of_ble_eq_true rfl) dX4_step_127 (fun H locs hP hD hS => ?_)
            have hP : va_P D vwCl (kX4 cB cI mo mb ma b13 b14 b15 b16 b17 b18 true false b21 b22 b23 w_al b24 b25 w_wt (0 : Int32) b26 b27) H := hP
            have hD : va_D A (kX4 cB cI mo mb ma b13 b14 b15 b16 b17 b18 true false b21 b22 b23 w_al b24 b25 w_wt (0 : Int32) b26 b27) := hD
            refine lv_goto (tgt := 145) hx hb dX4_step_130 (by decide) ?_
            exact J35 true false hf.symm H locs ls (lv_sub hl [0, 1] rfl) hP hD hS
      · have hf := hf.trans (kf_eq c12)
        refine lv_iconst (v := 2) hx hb dX4_step_82 (by decide) ?_
        rw [← hQ]
        exact W.iret (v := (2 : Int32)) hx hb hr (fun t ht hW => ⟨⟨(2 : Int32), (w_zf, w_nf, w_hf, w_cf, w_sp, w_pc, w_on, w_wt, w_ht, w_bg, w_cn, w_al, (0 : Int32), w_ie, w_ww, (0 : Int32), w_mm, w_bs), rfl, hf.symm, by rw [ht]; exact hP, va_K.moved hW.alike hK, hD⟩, hS.F ht⟩) hS.2.2 dX4_step_83
    · have hf := hf.trans (kf_eq c7)
      refine lv_iload_n hx hb dX4_step_53 rfl (lv_at hl 0 rfl) ?_
      refine lv_if_ne (tgt := 68) hx hb dX4_step_54 (by decide) (fun c40 => ?_) (fun c40 => ?_)
      · have hf := hf.trans (kf_eq c40)
        refine lv_aload_n hx hb dX4_step_68 rfl (lv_at hl 1 rfl) ?_
        refine lv_aload_n hx hb dX4_step_69 rfl (lv_at hl 1 rfl) ?_
        refine va_get (D := D) (ci := 4) (v := .int w_pc) (C := RX4) (T := TX4) (N := 18) hx hb hws inlX4 hown hK hP 0 rfl rfl 7 (by decide) (hws _ mw_370) (fun _ h9 => h9) rfl dX4_step_70 ?_
        refine kc_Vi (wr := []) (As := [.int w_pc]) (rest := []) (fun _ => (kX4 cB cI mo mb ma w_zf w_nf w_hf w_cf w_sp w_pc w_on w_wt w_ht w_bg w_cn w_al (0 : Int32) w_ie w_ww (0 : Int32) w_mm w_bs)) ⟨hx, hb, hml, hown, hws⟩ hK hP hD hS hA hT (c_X4_at l D cB cI mo mb ma H.size w_zf w_nf w_hf w_cf w_sp w_pc w_on w_wt w_ht w_bg w_cn w_al (0 : Int32) w_ie w_ww (0 : Int32) w_mm w_bs w_pc) (cwV 1 hws (gw_V mw_93 mw_94 mw_95 mw_5 mw_96) rfl rfl rfl hdX4_at ⟨Nat.le_of_ble_eq_true rfl, Nat.le_of_ble_eq_true rfl⟩) [0, 1, 2] [] [0, 1] [0, 1, 2] rfl rfl rfl rfl (by decide) rfl (fun _ => rfl) rfl 0 rfl rfl rfl rfl hl.1 rfl (Nat.le_of_ble_eq_true rfl) dX4_step_73 ⟨Nat.zero_le _, Nat.zero_le _⟩ (fun r42 _ H locs hw41 hP hD hS => ?_)
        have hP : va_P D vwCl (kX4 cB cI mo mb ma w_zf w_nf w_hf w_cf w_sp w_pc w_on w_wt w_ht w_bg w_cn w_al (0 : Int32) w_ie w_ww (0 : Int32) w_mm w_bs) H := hP
        have hD : va_D A (kX4 cB cI mo mb ma w_zf w_nf w_hf w_cf w_sp w_pc w_on w_wt w_ht w_bg w_cn w_al (0 : Int32) w_ie w_ww (0 : Int32) w_mm w_bs) := hD
        have hf := hf.trans (kE1 hw41)
        refine kc_Si (As := [.int r42]) (rest := []) ⟨hx, hb, hml, hown, hws⟩ hK hP hD hS hA hT (c_X4_isNone l D H.size r42) (va_cwS 1 hws (gw_S mw_398 mw_399 mw_5 mw_400) rfl rfl rfl hdX4_isNone.2 ⟨Nat.le_of_ble_eq_true rfl, Nat.le_of_ble_eq_true rfl⟩) rfl hl.1 rfl (Nat.le_of_ble_eq_true rfl) dX4_step_76 ⟨Nat.zero_le _, Nat.zero_le _⟩ (fun r43 H locs hwr43 hP hD hS => ?_)
        obtain ⟨z44, rfl, hwr43⟩ := hwr43
        have hf := hf.trans (kE1 hwr43)
        refine lv_if_eq (tgt := 84) hx hb dX4_step_79 (by decide) (fun c45 => ?_) (fun c45 => ?_)
        · have hf := hf.trans (kt_eq c45)
          refine lv_aload_n hx hb dX4_step_84 rfl (lv_at hl 1 rfl) ?_
          refine lv_iconst (v := 0) hx hb dX4_step_85 (by decide) ?_
          refine va_put (D := D) (ci := 4) (v := .int (bI false)) (ty := .boolean) (C := RX4) (T := TX4) (N := 18) hx hb hws inlX4 tyX4 tyX4_ok nmX4 hown hK hP hD hS 0 rfl rfl 10 (by decide) (hws _ mw_369) (fun _ h9 => h9) rfl (tyX4_ok 10 (by decide)) (bI_nar _) (bI_fit _) (Nat.le_of_ble_eq_true rfl) dX4_step_86 (fun H locs hP hD hS => ?_)
          have hP : va_P D vwCl (kX4 cB cI mo mb ma w_zf w_nf w_hf w_cf w_sp w_pc w_on w_wt false w_bg w_cn w_al (0 : Int32) w_ie w_ww (0 : Int32) w_mm w_bs) H := hP
          have hD : va_D A (kX4 cB cI mo mb ma w_zf w_nf w_hf w_cf w_sp w_pc w_on w_wt false w_bg w_cn w_al (0 : Int32) w_ie w_ww (0 : Int32) w_mm w_bs) := hD
          refine lv_aload_n hx hb dX4_step_89 rfl (lv_at hl 1 rfl) ?_
          refine lv_aload_n hx hb dX4_step_90 rfl (lv_at hl 1 rfl) ?_
          refine va_get (D := D) (ci := 4) (v := .int (bI w_wt)) (C := RX4) (T := TX4) (N := 18) hx hb hws inlX4 hown hK hP 0 rfl rfl 9 (by decide) (hws _ mw_371) (fun _ h9 => h9) rfl dX4_step_91 ?_
          refine va_put (D := D) (ci := 4) (v := .int (bI w_wt)) (ty := .boolean) (C := RX4) (T := TX4) (N := 18) hx hb hws inlX4 tyX4 tyX4_ok nmX4 hown hK hP hD hS 0 rfl rfl 16 (by decide) (hws _ mw_372) (fun _ h9 => h9) rfl (tyX4_ok 16 (by decide)) (bI_nar _) (bI_fit _) (Nat.le_of_ble_eq_true rfl) dX4_step_94 (fun H locs hP hD hS => ?_)
          have hP : va_P D vwCl (kX4 cB cI mo mb ma w_zf w_nf w_hf w_cf w_sp w_pc w_on w_wt false w_bg w_cn w_al (0 : Int32) w_ie w_wt (0 : Int32) w_mm w_bs) H := hP
          have hD : va_D A (kX4 cB cI mo mb ma w_zf w_nf w_hf w_cf w_sp w_pc w_on w_wt false w_bg w_cn w_al (0 : Int32) w_ie w_wt (0 : Int32) w_mm w_bs) := hD
          refine lv_aload_n hx hb dX4_step_97 rfl (lv_at hl 1 rfl) ?_
          refine lv_iconst (v := 0) hx hb dX4_step_98 (by decide) ?_
          refine va_put (D := D) (ci := 4) (v := .int (bI false)) (ty := .boolean) (C := RX4) (T := TX4) (N := 18) hx hb hws inlX4 tyX4 tyX4_ok nmX4 hown hK hP hD hS 0 rfl rfl 15 (by decide) (hws _ mw_373) (fun _ h9 => h9) rfl (tyX4_ok 15 (by decide)) (bI_nar _) (bI_fit _) (Nat.le_of_ble_eq_true rfl) dX4_step_99 (fun H locs hP hD hS => ?_)
          have hP : va_P D vwCl (kX4 cB cI mo mb ma w_zf w_nf w_hf w_cf w_sp w_pc w_on w_wt false w_bg w_cn w_al (0 : Int32) false w_wt (0 : Int32) w_mm w_bs) H := hP
          have hD : va_D A (kX4 cB cI mo mb ma w_zf w_nf w_hf w_cf w_sp w_pc w_on w_wt false w_bg w_cn w_al (0 : Int32) false w_wt (0 : Int32) w_mm w_bs) := hD
          refine lv_aload_n hx hb dX4_step_102 rfl (lv_at hl 1 rfl) ?_
          refine kc_Vv (wr := []) (As := []) (rest := []) (fun u9 => (kX4 cB cI mo mb ma (u9.1) (u9.2.1) (u9.2.2.1) (u9.2.2.2.1) (u9.2.2.2.2.1) (u9.2.2.2.2.2.1) (u9.2.2.2.2.2.2.1) (u9.2.2.2.2.2.2.2.1) (u9.2.2.2.2.2.2.2.2.1) (u9.2.2.2.2.2.2.2.2.2.1) (u9.2.2.2.2.2.2.2.2.2.2.1) w_al (u9.2.2.2.2.2.2.2.2.2.2.2.1) (u9.2.2.2.2.2.2.2.2.2.2.2.2.1) w_wt (0 : Int32) (u9.2.2.2.2.2.2.2.2.2.2.2.2.2.1) (u9.2.2.2.2.2.2.2.2.2.2.2.2.2.2))) ⟨hx, hb, hml, hown, hws⟩ hK hP hD hS hA hT (c_X4_instruction l D cB cI mo mb ma H.size w_zf w_nf w_hf w_cf w_sp w_pc w_on w_wt false w_bg w_cn w_al (0 : Int32) false w_wt (0 : Int32) w_mm w_bs ) (cwV 0 hws (gw_V mw_401 mw_402 mw_403 mw_5 mw_404) rfl rfl rfl hdX4_instruction ⟨Nat.le_of_ble_eq_true rfl, Nat.le_of_ble_eq_true rfl⟩) [0, 1, 2] [] [0, 1] [0, 1, 2] rfl rfl rfl rfl (by decide) rfl (fun _ => rfl) rfl 0 rfl rfl rfl rfl hl.1 rfl (Nat.le_of_ble_eq_true rfl) dX4_step_103 ⟨Nat.zero_le _, Nat.zero_le _⟩ (fun u9 H locs hw61 hP hD hS => ?_)
          obtain ⟨b46, b47, b48, b49, b50, b51, b52, b53, b54, b55, b56, b57, b58, b59, b60⟩ := u9
          have hP : va_P D vwCl (kX4 cB cI mo mb ma b46 b47 b48 b49 b50 b51 b52 b53 b54 b55 b56 w_al b57 b58 w_wt (0 : Int32) b59 b60) H := hP
          have hD : va_D A (kX4 cB cI mo mb ma b46 b47 b48 b49 b50 b51 b52 b53 b54 b55 b56 w_al b57 b58 w_wt (0 : Int32) b59 b60) := hD
          have hf := hf.trans (kE15 hw61)
          refine lv_aload_n hx hb dX4_step_106 rfl (lv_at hl 1 rfl) ?_
          refine va_get (D := D) (ci := 4) (v := .int (bI w_wt)) (C := RX4) (T := TX4) (N := 18) hx hb hws inlX4 hown hK hP 0 rfl rfl 16 (by decide) (hws _ mw_372) (fun _ h9 => h9) rfl dX4_step_107 ?_
          obtain ⟨TJ68, hTJ68⟩ : ∃ T9 : Bool × Bool, T9 = (kIf (kEq (bI w_wt) (0 : Int32)) (kIf (kEq (bI b58) (0 : Int32)) (b52, b53) (b52, true)) (kIf (kEq (bI b53) (0 : Int32)) (kIf (kEq (bI b58) (0 : Int32)) (b52, b53) (b52, true)) (true, false))) := ⟨_, rfl⟩
          have J68 : ∀ (b66 : Bool) (b67 : Bool), (b66, b67) = TJ68 → ∀ (H : Heap) (locs : List Loc) (ls : Array Slot), lv_has ls 2 [(1, .int x5), (0, .ref mo)] → va_P D vwCl (kX4 cB cI mo mb ma b46 b47 b48 b49 b50 b51 b66 b67 b54 b55 b56 w_al b57 b58 w_wt (0 : Int32) b59 b60) H → va_D A (kX4 cB cI mo mb ma b46 b47 b48 b49 b50 b51 b66 b67 b54 b55 b56 w_al b57 b58 w_wt (0 : Int32) b59 b60) → va_S A s.heap H locs → W p l e (headSpec wwX4_step rmX4_step).room s m ([.ref mo] : List Value).toArray below meth c H locs 0 0 Q (F0 m 145 ls []) := by
            intro b66 b67 eJ68 H locs ls hl hP hD hS
            have hf := hf.trans (kE2 (eJ68.trans hTJ68))
            refine lv_aload_n hx hb dX4_step_145 rfl (lv_at hl 1 rfl) ?_
            refine kc_Vv (wr := []) (As := []) (rest := []) (fun u9 => (kX4 cB cI mo mb ma b46 b47 b48 b49 b50 b51 b66 b67 b54 b55 (u9.1) (u9.2.1) b57 b58 w_wt (0 : Int32) (u9.2.2) b60)) ⟨hx, hb, hml, hown, hws⟩ hK hP hD hS hA hT (c_X4_time l D cB cI mo mb ma H.size b46 b47 b48 b49 b50 b51 b66 b67 b54 b55 b56 w_al b57 b58 w_wt (0 : Int32) b59 b60 ) (cwV 0 hws (gw_V mw_389 mw_390 mw_391 mw_5 mw_392) rfl rfl rfl hdX4_time ⟨Nat.le_of_ble_eq_true rfl, Nat.le_of_ble_eq_true rfl⟩) [0, 1, 2] [] [0, 1] [0, 1, 2] rfl rfl rfl rfl (by decide) rfl (fun _ => rfl) rfl 0 rfl rfl rfl rfl hl.1 rfl (Nat.le_of_ble_eq_true rfl) dX4_step_146 ⟨Nat.zero_le _, Nat.zero_le _⟩ (fun u9 H locs hw72 hP hD hS => ?_)
            obtain ⟨b69, b70, b71⟩ := u9
            have hP : va_P D vwCl (kX4 cB cI mo mb ma b46 b47 b48 b49 b50 b51 b66 b67 b54 b55 b69 b70 b57 b58 w_wt (0 : Int32) b71 b60) H := hP
            have hD : va_D A (kX4 cB cI mo mb ma b46 b47 b48 b49 b50 b51 b66 b67 b54 b55 b69 b70 b57 b58 w_wt (0 : Int32) b71 b60) := hD
            have hf := hf.trans (kE3 hw72)
            refine lv_iconst (v := 0) hx hb dX4_step_149 (by decide) ?_
            rw [← hQ]
            exact W.iret (v := (0 : Int32)) hx hb hr (fun t ht hW => ⟨⟨(0 : Int32), (b46, b47, b48, b49, b50, b51, b66, b67, b54, b55, b69, b70, b57, b58, w_wt, (0 : Int32), b71, b60), rfl, hf.symm, by rw [ht]; exact hP, va_K.moved hW.alike hK, hD⟩, hS.F ht⟩) hS.2.2 dX4_step_150
          have hf := hTJ68
          refine lv_if_eq (tgt := 133) hx hb dX4_step_110 (by decide) (fun c62 => ?_) (fun c62 => ?_)
          · have hf := hf.trans (kt_eq c62)
            refine lv_aload_n hx hb dX4_step_133 rfl (lv_at hl 1 rfl) ?_
            refine va_get (D := D) (ci := 4) (v := .int (bI b58)) (C := RX4) (T := TX4) (N := 18) hx hb hws inlX4 hown hK hP 0 rfl rfl 15 (by decide) (hws _ mw_373) (fun _ h9 => h9) rfl dX4_step_134 ?_
            refine lv_if_eq (tgt := 145) hx hb dX4_step_137 (by decide) (fun c63 => ?_) (fun c63 => ?_)
            · have hf := hf.trans (kt_eq c63)
              exact J68 b52 b53 hf.symm H locs ls (lv_sub hl [0, 1] rfl) hP hD hS
            · have hf := hf.trans (kf_eq c63)
              refine lv_aload_n hx hb dX4_step_140 rfl (lv_at hl 1 rfl) ?_
              refine lv_iconst (v := 1) hx hb dX4_step_141 (by decide) ?_
              refine va_put (D := D) (ci := 4) (v := .int (bI true)) (ty := .boolean) (C := RX4) (T := TX4) (N := 18) hx hb hws inlX4 tyX4 tyX4_ok nmX4 hown hK hP hD hS 0 rfl rfl 9 (by decide) (hws _ mw_371) (fun _ h9 => h9) rfl (tyX4_ok 9 (by decide)) (bI_nar _) (bI_fit _) (Nat.le_of_ble_eq_true rfl) dX4_step_142 (fun H locs hP hD hS => ?_)
              have hP : va_P D vwCl (kX4 cB cI mo mb ma b46 b47 b48 b49 b50 b51 b52 true b54 b55 b56 w_al b57 b58 w_wt (0 : Int32) b59 b60) H := hP
              have hD : va_D A (kX4 cB cI mo mb ma b46 b47 b48 b49 b50 b51 b52 true b54 b55 b56 w_al b57 b58 w_wt (0 : Int32) b59 b60) := hD
              exact J68 b52 true hf.symm H locs ls (lv_sub hl [0, 1] rfl) hP hD hS
          · have hf := hf.trans (kf_eq c62)
            refine lv_aload_n hx hb dX4_step_113 rfl (lv_at hl 1 rfl) ?_
            refine va_get (D := D) (ci := 4) (v := .int (bI b53)) (C := RX4) (T := TX4) (N := 18) hx hb hws inlX4 hown hK hP 0 rfl rfl 9 (by decide) (hws _ mw_371) (fun _ h9 => h9) rfl dX4_step_114 ?_
            refine lv_if_eq (tgt := 133) hx hb dX4_step_117 (by decide) (fun c64 => ?_) (fun c64 => ?_)
            · have hf := hf.trans (kt_eq c64)
              refine lv_aload_n hx hb dX4_step_133 rfl (lv_at hl 1 rfl) ?_
              refine va_get (D := D) (ci := 4) (v := .int (bI b58)) (C := RX4) (T := TX4) (N := 18) hx hb hws inlX4 hown hK hP 0 rfl rfl 15 (by decide) (hws _ mw_373) (fun _ h9 => h9) rfl dX4_step_134 ?_
              refine lv_if_eq (tgt := 145) hx hb dX4_step_137 (by decide) (fun c65 => ?_) (fun c65 => ?_)
              · have hf := hf.trans (kt_eq c65)
                exact J68 b52 b53 hf.symm H locs ls (lv_sub hl [0, 1] rfl) hP hD hS
              · have hf := hf.trans (kf_eq c65)
                refine lv_aload_n hx hb dX4_step_140 rfl (lv_at hl 1 rfl) ?_
                refine lv_iconst (v := 1) hx hb dX4_step_141 (by decide) ?_
                refine va_put (D := D) (ci := 4) (v := .int (bI true)) (ty := .boolean) (C := RX4) (T := TX4) (N := 18) hx hb hws inlX4 tyX4 tyX4_ok nmX4 hown hK hP hD hS 0 rfl rfl 9 (by decide) (hws _ mw_371) (fun _ h9 => h9) rfl (tyX4_ok 9 (by decide)) (bI_nar _) (bI_fit _) (Nat.le_of_ble_eq_true rfl) dX4_step_142 (fun H locs hP hD hS => ?_)
                have hP : va_P D vwCl (kX4 cB cI mo mb ma b46 b47 b48 b49 b50 b51 b52 true b54 b55 b56 w_al b57 b58 w_wt (0 : Int32) b59 b60) H := hP
                have hD : va_D A (kX4 cB cI mo mb ma b46 b47 b48 b49 b50 b51 b52 true b54 b55 b56 w_al b57 b58 w_wt (0 : Int32) b59 b60) := hD
                exact J68 b52 true hf.symm H locs ls (lv_sub hl [0, 1] rfl) hP hD hS
            · have hf := hf.trans (kf_eq c64)
              refine lv_aload_n hx hb dX4_step_120 rfl (lv_at hl 1 rfl) ?_
              refine lv_iconst (v := 0) hx hb dX4_step_121 (by decide) ?_
              refine va_put (D := D) (ci := 4) (v := .int (bI false)) (ty := .boolean) (C := RX4) (T := TX4) (N := 18) hx hb hws inlX4 tyX4 tyX4_ok nmX4 hown hK hP hD hS 0 rfl rfl 9 (by decide) (hws _ mw_371) (fun _ h9 => h9) rfl (tyX4_ok 9 (by decide)) (bI_nar _) (bI_fit _) (Nat.le_of_ble_eq_true rfl) dX4_step_122 (fun H locs hP hD hS => ?_)
              have hP : va_P D vwCl (kX4 cB cI mo mb ma b46 b47 b48 b49 b50 b51 b52 false b54 b55 b56 w_al b57 b58 w_wt (0 : Int32) b59 b60) H := hP
              have hD : va_D A (kX4 cB cI mo mb ma b46 b47 b48 b49 b50 b51 b52 false b54 b55 b56 w_al b57 b58 w_wt (0 : Int32) b59 b60) := hD
              refine lv_aload_n hx hb dX4_step_125 rfl (lv_at hl 1 rfl) ?_
              refine lv_iconst (v := 1) hx hb dX4_step_126 (by decide) ?_
              refine va_put (D := D) (ci := 4) (v := .int (bI true)) (ty := .boolean) (C := RX4) (T := TX4) (N := 18) hx hb hws inlX4 tyX4 tyX4_ok nmX4 hown hK hP hD hS 0 rfl rfl 8 (by decide) (hws _ mw_368) (fun _ h9 => h9) rfl (tyX4_ok 8 (by decide)) (bI_nar _) (bI_fit _) (Nat.le_of_ble_eq_true rfl) dX4_step_127 (fun H locs hP hD hS => ?_)
              have hP : va_P D vwCl (kX4 cB cI mo mb ma b46 b47 b48 b49 b50 b51 true false b54 b55 b56 w_al b57 b58 w_wt (0 : Int32) b59 b60) H := hP
              have hD : va_D A (kX4 cB cI mo mb ma b46 b47 b48 b49 b50 b51 true false b54 b55 b56 w_al b57 b58 w_wt (0 : Int32) b59 b60) := hD
              refine lv_goto (tgt := 145) hx hb dX4_step_130 (by decide) ?_
              exact J68 true false hf.symm H locs ls (lv_sub hl [0, 1] rfl) hP hD hS
        · have hf := hf.trans (kf_eq c45)
          refine lv_iconst (v := 2) hx hb dX4_step_82 (by decide) ?_
          rw [← hQ]
          exact W.iret (v := (2 : Int32)) hx hb hr (fun t ht hW => ⟨⟨(2 : Int32), (w_zf, w_nf, w_hf, w_cf, w_sp, w_pc, w_on, w_wt, w_ht, w_bg, w_cn, w_al, (0 : Int32), w_ie, w_ww, (0 : Int32), w_mm, w_bs), rfl, hf.symm, by rw [ht]; exact hP, va_K.moved hW.alike hK, hD⟩, hS.F ht⟩) hS.2.2 dX4_step_83
      · have hf := hf.trans (kt_eq c40)
        refine lv_aload_n hx hb dX4_step_57 rfl (lv_at hl 1 rfl) ?_
        refine lv_iconst (v := 1) hx hb dX4_step_58 (by decide) ?_
        refine va_put (D := D) (ci := 4) (v := .int (1 : Int32)) (ty := .int) (C := RX4) (T := TX4) (N := 18) hx hb hws inlX4 tyX4 tyX4_ok nmX4 hown hK hP hD hS 0 rfl rfl 14 (by decide) (hws _ mw_367) (fun _ h9 => h9) rfl (tyX4_ok 14 (by decide)) rfl rfl (Nat.le_of_ble_eq_true rfl) dX4_step_59 (fun H locs hP hD hS => ?_)
        have hP : va_P D vwCl (kX4 cB cI mo mb ma w_zf w_nf w_hf w_cf w_sp w_pc w_on w_wt w_ht w_bg w_cn w_al (1 : Int32) w_ie w_ww (0 : Int32) w_mm w_bs) H := hP
        have hD : va_D A (kX4 cB cI mo mb ma w_zf w_nf w_hf w_cf w_sp w_pc w_on w_wt w_ht w_bg w_cn w_al (1 : Int32) w_ie w_ww (0 : Int32) w_mm w_bs) := hD
        refine lv_aload_n hx hb dX4_step_62 rfl (lv_at hl 1 rfl) ?_
        refine kc_Vv (wr := []) (As := []) (rest := []) (fun u9 => (kX4 cB cI mo mb ma w_zf w_nf w_hf w_cf w_sp w_pc w_on w_wt w_ht w_bg (u9.1) (u9.2.1) (1 : Int32) w_ie w_ww (0 : Int32) (u9.2.2) w_bs)) ⟨hx, hb, hml, hown, hws⟩ hK hP hD hS hA hT (c_X4_time l D cB cI mo mb ma H.size w_zf w_nf w_hf w_cf w_sp w_pc w_on w_wt w_ht w_bg w_cn w_al (1 : Int32) w_ie w_ww (0 : Int32) w_mm w_bs ) (cwV 0 hws (gw_V mw_389 mw_390 mw_391 mw_5 mw_392) rfl rfl rfl hdX4_time ⟨Nat.le_of_ble_eq_true rfl, Nat.le_of_ble_eq_true rfl⟩) [0, 1, 2] [] [0, 1] [0, 1, 2] rfl rfl rfl rfl (by decide) rfl (fun _ => rfl) rfl 0 rfl rfl rfl rfl hl.1 rfl (Nat.le_of_ble_eq_true rfl) dX4_step_63 ⟨Nat.zero_le _, Nat.zero_le _⟩ (fun u9 H locs hw76 hP hD hS => ?_)
        obtain ⟨b73, b74, b75⟩ := u9
        have hP : va_P D vwCl (kX4 cB cI mo mb ma w_zf w_nf w_hf w_cf w_sp w_pc w_on w_wt w_ht w_bg b73 b74 (1 : Int32) w_ie w_ww (0 : Int32) b75 w_bs) H := hP
        have hD : va_D A (kX4 cB cI mo mb ma w_zf w_nf w_hf w_cf w_sp w_pc w_on w_wt w_ht w_bg b73 b74 (1 : Int32) w_ie w_ww (0 : Int32) b75 w_bs) := hD
        have hf := hf.trans (kE3 hw76)
        refine lv_iconst (v := 1) hx hb dX4_step_66 (by decide) ?_
        rw [← hQ]
        exact W.iret (v := (1 : Int32)) hx hb hr (fun t ht hW => ⟨⟨(1 : Int32), (w_zf, w_nf, w_hf, w_cf, w_sp, w_pc, w_on, w_wt, w_ht, w_bg, b73, b74, (1 : Int32), w_ie, w_ww, (0 : Int32), b75, w_bs), rfl, hf.symm, by rw [ht]; exact hP, va_K.moved hW.alike hK, hD⟩, hS.F ht⟩) hS.2.2 dX4_step_67
  · have hf := hf.trans (kf_eq c6)
    refine lv_iload_n hx hb dX4_step_34 rfl (lv_at hl 0 rfl) ?_
    refine lv_if_le (tgt := 46) hx hb dX4_step_35 (by decide) (fun c77 => ?_) (fun c77 => ?_)
    · have hf := hf.trans (kt_le c77)
      refine lv_aload_n hx hb dX4_step_46 rfl (lv_at hl 1 rfl) ?_
      refine va_get (D := D) (ci := 4) (v := .int (bI w_ht)) (C := RX4) (T := TX4) (N := 18) hx hb hws inlX4 hown hK hP 0 rfl rfl 10 (by decide) (hws _ mw_369) (fun _ h9 => h9) rfl dX4_step_47 ?_
      refine lv_if_eq (tgt := 68) hx hb dX4_step_50 (by decide) (fun c78 => ?_) (fun c78 => ?_)
      · have hf := hf.trans (kt_eq c78)
        refine lv_aload_n hx hb dX4_step_68 rfl (lv_at hl 1 rfl) ?_
        refine lv_aload_n hx hb dX4_step_69 rfl (lv_at hl 1 rfl) ?_
        refine va_get (D := D) (ci := 4) (v := .int w_pc) (C := RX4) (T := TX4) (N := 18) hx hb hws inlX4 hown hK hP 0 rfl rfl 7 (by decide) (hws _ mw_370) (fun _ h9 => h9) rfl dX4_step_70 ?_
        refine kc_Vi (wr := []) (As := [.int w_pc]) (rest := []) (fun _ => (kX4 cB cI mo mb ma w_zf w_nf w_hf w_cf w_sp w_pc w_on w_wt w_ht w_bg w_cn w_al (0 : Int32) w_ie w_ww (0 : Int32) w_mm w_bs)) ⟨hx, hb, hml, hown, hws⟩ hK hP hD hS hA hT (c_X4_at l D cB cI mo mb ma H.size w_zf w_nf w_hf w_cf w_sp w_pc w_on w_wt w_ht w_bg w_cn w_al (0 : Int32) w_ie w_ww (0 : Int32) w_mm w_bs w_pc) (cwV 1 hws (gw_V mw_93 mw_94 mw_95 mw_5 mw_96) rfl rfl rfl hdX4_at ⟨Nat.le_of_ble_eq_true rfl, Nat.le_of_ble_eq_true rfl⟩) [0, 1, 2] [] [0, 1] [0, 1, 2] rfl rfl rfl rfl (by decide) rfl (fun _ => rfl) rfl 0 rfl rfl rfl rfl hl.1 rfl (Nat.le_of_ble_eq_true rfl) dX4_step_73 ⟨Nat.zero_le _, Nat.zero_le _⟩ (fun r80 _ H locs hw79 hP hD hS => ?_)
        have hP : va_P D vwCl (kX4 cB cI mo mb ma w_zf w_nf w_hf w_cf w_sp w_pc w_on w_wt w_ht w_bg w_cn w_al (0 : Int32) w_ie w_ww (0 : Int32) w_mm w_bs) H := hP
        have hD : va_D A (kX4 cB cI mo mb ma w_zf w_nf w_hf w_cf w_sp w_pc w_on w_wt w_ht w_bg w_cn w_al (0 : Int32) w_ie w_ww (0 : Int32) w_mm w_bs) := hD
        have hf := hf.trans (kE1 hw79)
        refine kc_Si (As := [.int r80]) (rest := []) ⟨hx, hb, hml, hown, hws⟩ hK hP hD hS hA hT (c_X4_isNone l D H.size r80) (va_cwS 1 hws (gw_S mw_398 mw_399 mw_5 mw_400) rfl rfl rfl hdX4_isNone.2 ⟨Nat.le_of_ble_eq_true rfl, Nat.le_of_ble_eq_true rfl⟩) rfl hl.1 rfl (Nat.le_of_ble_eq_true rfl) dX4_step_76 ⟨Nat.zero_le _, Nat.zero_le _⟩ (fun r81 H locs hwr81 hP hD hS => ?_)
        obtain ⟨z82, rfl, hwr81⟩ := hwr81
        have hf := hf.trans (kE1 hwr81)
        refine lv_if_eq (tgt := 84) hx hb dX4_step_79 (by decide) (fun c83 => ?_) (fun c83 => ?_)
        · have hf := hf.trans (kt_eq c83)
          refine lv_aload_n hx hb dX4_step_84 rfl (lv_at hl 1 rfl) ?_
          refine lv_iconst (v := 0) hx hb dX4_step_85 (by decide) ?_
          refine va_put (D := D) (ci := 4) (v := .int (bI false)) (ty := .boolean) (C := RX4) (T := TX4) (N := 18) hx hb hws inlX4 tyX4 tyX4_ok nmX4 hown hK hP hD hS 0 rfl rfl 10 (by decide) (hws _ mw_369) (fun _ h9 => h9) rfl (tyX4_ok 10 (by decide)) (bI_nar _) (bI_fit _) (Nat.le_of_ble_eq_true rfl) dX4_step_86 (fun H locs hP hD hS => ?_)
          have hP : va_P D vwCl (kX4 cB cI mo mb ma w_zf w_nf w_hf w_cf w_sp w_pc w_on w_wt false w_bg w_cn w_al (0 : Int32) w_ie w_ww (0 : Int32) w_mm w_bs) H := hP
          have hD : va_D A (kX4 cB cI mo mb ma w_zf w_nf w_hf w_cf w_sp w_pc w_on w_wt false w_bg w_cn w_al (0 : Int32) w_ie w_ww (0 : Int32) w_mm w_bs) := hD
          refine lv_aload_n hx hb dX4_step_89 rfl (lv_at hl 1 rfl) ?_
          refine lv_aload_n hx hb dX4_step_90 rfl (lv_at hl 1 rfl) ?_
          refine va_get (D := D) (ci := 4) (v := .int (bI w_wt)) (C := RX4) (T := TX4) (N := 18) hx hb hws inlX4 hown hK hP 0 rfl rfl 9 (by decide) (hws _ mw_371) (fun _ h9 => h9) rfl dX4_step_91 ?_
          refine va_put (D := D) (ci := 4) (v := .int (bI w_wt)) (ty := .boolean) (C := RX4) (T := TX4) (N := 18) hx hb hws inlX4 tyX4 tyX4_ok nmX4 hown hK hP hD hS 0 rfl rfl 16 (by decide) (hws _ mw_372) (fun _ h9 => h9) rfl (tyX4_ok 16 (by decide)) (bI_nar _) (bI_fit _) (Nat.le_of_ble_eq_true rfl) dX4_step_94 (fun H locs hP hD hS => ?_)
          have hP : va_P D vwCl (kX4 cB cI mo mb ma w_zf w_nf w_hf w_cf w_sp w_pc w_on w_wt false w_bg w_cn w_al (0 : Int32) w_ie w_wt (0 : Int32) w_mm w_bs) H := hP
          have hD : va_D A (kX4 cB cI mo mb ma w_zf w_nf w_hf w_cf w_sp w_pc w_on w_wt false w_bg w_cn w_al (0 : Int32) w_ie w_wt (0 : Int32) w_mm w_bs) := hD
          refine lv_aload_n hx hb dX4_step_97 rfl (lv_at hl 1 rfl) ?_
          refine lv_iconst (v := 0) hx hb dX4_step_98 (by decide) ?_
          refine va_put (D := D) (ci := 4) (v := .int (bI false)) (ty := .boolean) (C := RX4) (T := TX4) (N := 18) hx hb hws inlX4 tyX4 tyX4_ok nmX4 hown hK hP hD hS 0 rfl rfl 15 (by decide) (hws _ mw_373) (fun _ h9 => h9) rfl (tyX4_ok 15 (by decide)) (bI_nar _) (bI_fit _) (Nat.le_of_ble_eq_true rfl) dX4_step_99 (fun H locs hP hD hS => ?_)
          have hP : va_P D vwCl (kX4 cB cI mo mb ma w_zf w_nf w_hf w_cf w_sp w_pc w_on w_wt false w_bg w_cn w_al (0 : Int32) false w_wt (0 : Int32) w_mm w_bs) H := hP
          have hD : va_D A (kX4 cB cI mo mb ma w_zf w_nf w_hf w_cf w_sp w_pc w_on w_wt false w_bg w_cn w_al (0 : Int32) false w_wt (0 : Int32) w_mm w_bs) := hD
          refine lv_aload_n hx hb dX4_step_102 rfl (lv_at hl 1 rfl) ?_
          refine kc_Vv (wr := []) (As := []) (rest := []) (fun u9 => (kX4 cB cI mo mb ma (u9.1) (u9.2.1) (u9.2.2.1) (u9.2.2.2.1) (u9.2.2.2.2.1) (u9.2.2.2.2.2.1) (u9.2.2.2.2.2.2.1) (u9.2.2.2.2.2.2.2.1) (u9.2.2.2.2.2.2.2.2.1) (u9.2.2.2.2.2.2.2.2.2.1) (u9.2.2.2.2.2.2.2.2.2.2.1) w_al (u9.2.2.2.2.2.2.2.2.2.2.2.1) (u9.2.2.2.2.2.2.2.2.2.2.2.2.1) w_wt (0 : Int32) (u9.2.2.2.2.2.2.2.2.2.2.2.2.2.1) (u9.2.2.2.2.2.2.2.2.2.2.2.2.2.2))) ⟨hx, hb, hml, hown, hws⟩ hK hP hD hS hA hT (c_X4_instruction l D cB cI mo mb ma H.size w_zf w_nf w_hf w_cf w_sp w_pc w_on w_wt false w_bg w_cn w_al (0 : Int32) false w_wt (0 : Int32) w_mm w_bs ) (cwV 0 hws (gw_V mw_401 mw_402 mw_403 mw_5 mw_404) rfl rfl rfl hdX4_instruction ⟨Nat.le_of_ble_eq_true rfl, Nat.le_of_ble_eq_true rfl⟩) [0, 1, 2] [] [0, 1] [0, 1, 2] rfl rfl rfl rfl (by decide) rfl (fun _ => rfl) rfl 0 rfl rfl rfl rfl hl.1 rfl (Nat.le_of_ble_eq_true rfl) dX4_step_103 ⟨Nat.zero_le _, Nat.zero_le _⟩ (fun u9 H locs hw99 hP hD hS => ?_)
          obtain ⟨b84, b85, b86, b87, b88, b89, b90, b91, b92, b93, b94, b95, b96, b97, b98⟩ := u9
          have hP : va_P D vwCl (kX4 cB cI mo mb ma b84 b85 b86 b87 b88 b89 b90 b91 b92 b93 b94 w_al b95 b96 w_wt (0 : Int32) b97 b98) H := hP
          have hD : va_D A (kX4 cB cI mo mb ma b84 b85 b86 b87 b88 b89 b90 b91 b92 b93 b94 w_al b95 b96 w_wt (0 : Int32) b97 b98) := hD
          have hf := hf.trans (kE15 hw99)
          refine lv_aload_n hx hb dX4_step_106 rfl (lv_at hl 1 rfl) ?_
          refine va_get (D := D) (ci := 4) (v := .int (bI w_wt)) (C := RX4) (T := TX4) (N := 18) hx hb hws inlX4 hown hK hP 0 rfl rfl 16 (by decide) (hws _ mw_372) (fun _ h9 => h9) rfl dX4_step_107 ?_
          obtain ⟨TJ106, hTJ106⟩ : ∃ T9 : Bool × Bool, T9 = (kIf (kEq (bI w_wt) (0 : Int32)) (kIf (kEq (bI b96) (0 : Int32)) (b90, b91) (b90, true)) (kIf (kEq (bI b91) (0 : Int32)) (kIf (kEq (bI b96) (0 : Int32)) (b90, b91) (b90, true)) (true, false))) := ⟨_, rfl⟩
          have J106 : ∀ (b104 : Bool) (b105 : Bool), (b104, b105) = TJ106 → ∀ (H : Heap) (locs : List Loc) (ls : Array Slot), lv_has ls 2 [(1, .int x5), (0, .ref mo)] → va_P D vwCl (kX4 cB cI mo mb ma b84 b85 b86 b87 b88 b89 b104 b105 b92 b93 b94 w_al b95 b96 w_wt (0 : Int32) b97 b98) H → va_D A (kX4 cB cI mo mb ma b84 b85 b86 b87 b88 b89 b104 b105 b92 b93 b94 w_al b95 b96 w_wt (0 : Int32) b97 b98) → va_S A s.heap H locs → W p l e (headSpec wwX4_step rmX4_step).room s m ([.ref mo] : List Value).toArray below meth c H locs 0 0 Q (F0 m 145 ls []) := by
            intro b104 b105 eJ106 H locs ls hl hP hD hS
            have hf := hf.trans (kE2 (eJ106.trans hTJ106))
            refine lv_aload_n hx hb dX4_step_145 rfl (lv_at hl 1 rfl) ?_
            refine kc_Vv (wr := []) (As := []) (rest := []) (fun u9 => (kX4 cB cI mo mb ma b84 b85 b86 b87 b88 b89 b104 b105 b92 b93 (u9.1) (u9.2.1) b95 b96 w_wt (0 : Int32) (u9.2.2) b98)) ⟨hx, hb, hml, hown, hws⟩ hK hP hD hS hA hT (c_X4_time l D cB cI mo mb ma H.size b84 b85 b86 b87 b88 b89 b104 b105 b92 b93 b94 w_al b95 b96 w_wt (0 : Int32) b97 b98 ) (cwV 0 hws (gw_V mw_389 mw_390 mw_391 mw_5 mw_392) rfl rfl rfl hdX4_time ⟨Nat.le_of_ble_eq_true rfl, Nat.le_of_ble_eq_true rfl⟩) [0, 1, 2] [] [0, 1] [0, 1, 2] rfl rfl rfl rfl (by decide) rfl (fun _ => rfl) rfl 0 rfl rfl rfl rfl hl.1 rfl (Nat.le_of_ble_eq_true rfl) dX4_step_146 ⟨Nat.zero_le _, Nat.zero_le _⟩ (fun u9 H locs hw110 hP hD hS => ?_)
            obtain ⟨b107, b108, b109⟩ := u9
            have hP : va_P D vwCl (kX4 cB cI mo mb ma b84 b85 b86 b87 b88 b89 b104 b105 b92 b93 b107 b108 b95 b96 w_wt (0 : Int32) b109 b98) H := hP
            have hD : va_D A (kX4 cB cI mo mb ma b84 b85 b86 b87 b88 b89 b104 b105 b92 b93 b107 b108 b95 b96 w_wt (0 : Int32) b109 b98) := hD
            have hf := hf.trans (kE3 hw110)
            refine lv_iconst (v := 0) hx hb dX4_step_149 (by decide) ?_
            rw [← hQ]
            exact W.iret (v := (0 : Int32)) hx hb hr (fun t ht hW => ⟨⟨(0 : Int32), (b84, b85, b86, b87, b88, b89, b104, b105, b92, b93, b107, b108, b95, b96, w_wt, (0 : Int32), b109, b98), rfl, hf.symm, by rw [ht]; exact hP, va_K.moved hW.alike hK, hD⟩, hS.F ht⟩) hS.2.2 dX4_step_150
          have hf := hTJ106
          refine lv_if_eq (tgt := 133) hx hb dX4_step_110 (by decide) (fun c100 => ?_) (fun c100 => ?_)
          · have hf := hf.trans (kt_eq c100)
            refine lv_aload_n hx hb dX4_step_133 rfl (lv_at hl 1 rfl) ?_
            refine va_get (D := D) (ci := 4) (v := .int (bI b96)) (C := RX4) (T := TX4) (N := 18) hx hb hws inlX4 hown hK hP 0 rfl rfl 15 (by decide) (hws _ mw_373) (fun _ h9 => h9) rfl dX4_step_134 ?_
            refine lv_if_eq (tgt := 145) hx hb dX4_step_137 (by decide) (fun c101 => ?_) (fun c101 => ?_)
            · have hf := hf.trans (kt_eq c101)
              exact J106 b90 b91 hf.symm H locs ls (lv_sub hl [0, 1] rfl) hP hD hS
            · have hf := hf.trans (kf_eq c101)
              refine lv_aload_n hx hb dX4_step_140 rfl (lv_at hl 1 rfl) ?_
              refine lv_iconst (v := 1) hx hb dX4_step_141 (by decide) ?_
              refine va_put (D := D) (ci := 4) (v := .int (bI true)) (ty := .boolean) (C := RX4) (T := TX4) (N := 18) hx hb hws inlX4 tyX4 tyX4_ok nmX4 hown hK hP hD hS 0 rfl rfl 9 (by decide) (hws _ mw_371) (fun _ h9 => h9) rfl (tyX4_ok 9 (by decide)) (bI_nar _) (bI_fit _) (Nat.le_of_ble_eq_true rfl) dX4_step_142 (fun H locs hP hD hS => ?_)
              have hP : va_P D vwCl (kX4 cB cI mo mb ma b84 b85 b86 b87 b88 b89 b90 true b92 b93 b94 w_al b95 b96 w_wt (0 : Int32) b97 b98) H := hP
              have hD : va_D A (kX4 cB cI mo mb ma b84 b85 b86 b87 b88 b89 b90 true b92 b93 b94 w_al b95 b96 w_wt (0 : Int32) b97 b98) := hD
              exact J106 b90 true hf.symm H locs ls (lv_sub hl [0, 1] rfl) hP hD hS
          · have hf := hf.trans (kf_eq c100)
            refine lv_aload_n hx hb dX4_step_113 rfl (lv_at hl 1 rfl) ?_
            refine va_get (D := D) (ci := 4) (v := .int (bI b91)) (C := RX4) (T := TX4) (N := 18) hx hb hws inlX4 hown hK hP 0 rfl rfl 9 (by decide) (hws _ mw_371) (fun _ h9 => h9) rfl dX4_step_114 ?_
            refine lv_if_eq (tgt := 133) hx hb dX4_step_117 (by decide) (fun c102 => ?_) (fun c102 => ?_)
            · have hf := hf.trans (kt_eq c102)
              refine lv_aload_n hx hb dX4_step_133 rfl (lv_at hl 1 rfl) ?_
              refine va_get (D := D) (ci := 4) (v := .int (bI b96)) (C := RX4) (T := TX4) (N := 18) hx hb hws inlX4 hown hK hP 0 rfl rfl 15 (by decide) (hws _ mw_373) (fun _ h9 => h9) rfl dX4_step_134 ?_
              refine lv_if_eq (tgt := 145) hx hb dX4_step_137 (by decide) (fun c103 => ?_) (fun c103 => ?_)
              · have hf := hf.trans (kt_eq c103)
                exact J106 b90 b91 hf.symm H locs ls (lv_sub hl [0, 1] rfl) hP hD hS
              · have hf := hf.trans (kf_eq c103)
                refine lv_aload_n hx hb dX4_step_140 rfl (lv_at hl 1 rfl) ?_
                refine lv_iconst (v := 1) hx hb dX4_step_141 (by decide) ?_
                refine va_put (D := D) (ci := 4) (v := .int (bI true)) (ty := .boolean) (C := RX4) (T := TX4) (N := 18) hx hb hws inlX4 tyX4 tyX4_ok nmX4 hown hK hP hD hS 0 rfl rfl 9 (by decide) (hws _ mw_371) (fun _ h9 => h9) rfl (tyX4_ok 9 (by decide)) (bI_nar _) (bI_fit _) (Nat.le_of_ble_eq_true rfl) dX4_step_142 (fun H locs hP hD hS => ?_)
                have hP : va_P D vwCl (kX4 cB cI mo mb ma b84 b85 b86 b87 b88 b89 b90 true b92 b93 b94 w_al b95 b96 w_wt (0 : Int32) b97 b98) H := hP
                have hD : va_D A (kX4 cB cI mo mb ma b84 b85 b86 b87 b88 b89 b90 true b92 b93 b94 w_al b95 b96 w_wt (0 : Int32) b97 b98) := hD
                exact J106 b90 true hf.symm H locs ls (lv_sub hl [0, 1] rfl) hP hD hS
            · have hf := hf.trans (kf_eq c102)
              refine lv_aload_n hx hb dX4_step_120 rfl (lv_at hl 1 rfl) ?_
              refine lv_iconst (v := 0) hx hb dX4_step_121 (by decide) ?_
              refine va_put (D := D) (ci := 4) (v := .int (bI false)) (ty := .boolean) (C := RX4) (T := TX4) (N := 18) hx hb hws inlX4 tyX4 tyX4_ok nmX4 hown hK hP hD hS 0 rfl rfl 9 (by decide) (hws _ mw_371) (fun _ h9 => h9) rfl (tyX4_ok 9 (by decide)) (bI_nar _) (bI_fit _) (Nat.le_of_ble_eq_true rfl) dX4_step_122 (fun H locs hP hD hS => ?_)
              have hP : va_P D vwCl (kX4 cB cI mo mb ma b84 b85 b86 b87 b88 b89 b90 false b92 b93 b94 w_al b95 b96 w_wt (0 : Int32) b97 b98) H := hP
              have hD : va_D A (kX4 cB cI mo mb ma b84 b85 b86 b87 b88 b89 b90 false b92 b93 b94 w_al b95 b96 w_wt (0 : Int32) b97 b98) := hD
              refine lv_aload_n hx hb dX4_step_125 rfl (lv_at hl 1 rfl) ?_
              refine lv_iconst (v := 1) hx hb dX4_step_126 (by decide) ?_
              refine va_put (D := D) (ci := 4) (v := .int (bI true)) (ty := .boolean) (C := RX4) (T := TX4) (N := 18) hx hb hws inlX4 tyX4 tyX4_ok nmX4 hown hK hP hD hS 0 rfl rfl 8 (by decide) (hws _ mw_368) (fun _ h9 => h9) rfl (tyX4_ok 8 (by decide)) (bI_nar _) (bI_fit _) (Nat.le_of_ble_eq_true rfl) dX4_step_127 (fun H locs hP hD hS => ?_)
              have hP : va_P D vwCl (kX4 cB cI mo mb ma b84 b85 b86 b87 b88 b89 true false b92 b93 b94 w_al b95 b96 w_wt (0 : Int32) b97 b98) H := hP
              have hD : va_D A (kX4 cB cI mo mb ma b84 b85 b86 b87 b88 b89 true false b92 b93 b94 w_al b95 b96 w_wt (0 : Int32) b97 b98) := hD
              refine lv_goto (tgt := 145) hx hb dX4_step_130 (by decide) ?_
              exact J106 true false hf.symm H locs ls (lv_sub hl [0, 1] rfl) hP hD hS
        · have hf := hf.trans (kf_eq c83)
          refine lv_iconst (v := 2) hx hb dX4_step_82 (by decide) ?_
          rw [← hQ]
          exact W.iret (v := (2 : Int32)) hx hb hr (fun t ht hW => ⟨⟨(2 : Int32), (w_zf, w_nf, w_hf, w_cf, w_sp, w_pc, w_on, w_wt, w_ht, w_bg, w_cn, w_al, (0 : Int32), w_ie, w_ww, (0 : Int32), w_mm, w_bs), rfl, hf.symm, by rw [ht]; exact hP, va_K.moved hW.alike hK, hD⟩, hS.F ht⟩) hS.2.2 dX4_step_83
      · have hf := hf.trans (kf_eq c78)
        refine lv_iload_n hx hb dX4_step_53 rfl (lv_at hl 0 rfl) ?_
        refine lv_if_ne (tgt := 68) hx hb dX4_step_54 (by decide) (fun c111 => ?_) (fun c111 => ?_)
        · have hf := hf.trans (kf_eq c111)
          refine lv_aload_n hx hb dX4_step_68 rfl (lv_at hl 1 rfl) ?_
          refine lv_aload_n hx hb dX4_step_69 rfl (lv_at hl 1 rfl) ?_
          refine va_get (D := D) (ci := 4) (v := .int w_pc) (C := RX4) (T := TX4) (N := 18) hx hb hws inlX4 hown hK hP 0 rfl rfl 7 (by decide) (hws _ mw_370) (fun _ h9 => h9) rfl dX4_step_70 ?_
          refine kc_Vi (wr := []) (As := [.int w_pc]) (rest := []) (fun _ => (kX4 cB cI mo mb ma w_zf w_nf w_hf w_cf w_sp w_pc w_on w_wt w_ht w_bg w_cn w_al (0 : Int32) w_ie w_ww (0 : Int32) w_mm w_bs)) ⟨hx, hb, hml, hown, hws⟩ hK hP hD hS hA hT (c_X4_at l D cB cI mo mb ma H.size w_zf w_nf w_hf w_cf w_sp w_pc w_on w_wt w_ht w_bg w_cn w_al (0 : Int32) w_ie w_ww (0 : Int32) w_mm w_bs w_pc) (cwV 1 hws (gw_V mw_93 mw_94 mw_95 mw_5 mw_96) rfl rfl rfl hdX4_at ⟨Nat.le_of_ble_eq_true rfl, Nat.le_of_ble_eq_true rfl⟩) [0, 1, 2] [] [0, 1] [0, 1, 2] rfl rfl rfl rfl (by decide) rfl (fun _ => rfl) rfl 0 rfl rfl rfl rfl hl.1 rfl (Nat.le_of_ble_eq_true rfl) dX4_step_73 ⟨Nat.zero_le _, Nat.zero_le _⟩ (fun r113 _ H locs hw112 hP hD hS => ?_)
          have hP : va_P D vwCl (kX4 cB cI mo mb ma w_zf w_nf w_hf w_cf w_sp w_pc w_on w_wt w_ht w_bg w_cn w_al (0 : Int32) w_ie w_ww (0 : Int32) w_mm w_bs) H := hP
          have hD : va_D A (kX4 cB cI mo mb ma w_zf w_nf w_hf w_cf w_sp w_pc w_on w_wt w_ht w_bg w_cn w_al (0 : Int32) w_ie w_ww (0 : Int32) w_mm w_bs) := hD
          have hf := hf.trans (kE1 hw112)
          refine kc_Si (As := [.int r113]) (rest := []) ⟨hx, hb, hml, hown, hws⟩ hK hP hD hS hA hT (c_X4_isNone l D H.size r113) (va_cwS 1 hws (gw_S mw_398 mw_399 mw_5 mw_400) rfl rfl rfl hdX4_isNone.2 ⟨Nat.le_of_ble_eq_true rfl, Nat.le_of_ble_eq_true rfl⟩) rfl hl.1 rfl (Nat.le_of_ble_eq_true rfl) dX4_step_76 ⟨Nat.zero_le _, Nat.zero_le _⟩ (fun r114 H locs hwr114 hP hD hS => ?_)
          obtain ⟨z115, rfl, hwr114⟩ := hwr114
          have hf := hf.trans (kE1 hwr114)
          refine lv_if_eq (tgt := 84) hx hb dX4_step_79 (by decide) (fun c116 => ?_) (fun c116 => ?_)
          · have hf := hf.trans (kt_eq c116)
            refine lv_aload_n hx hb dX4_step_84 rfl (lv_at hl 1 rfl) ?_
            refine lv_iconst (v := 0) hx hb dX4_step_85 (by decide) ?_
            refine va_put (D := D) (ci := 4) (v := .int (bI false)) (ty := .boolean) (C := RX4) (T := TX4) (N := 18) hx hb hws inlX4 tyX4 tyX4_ok nmX4 hown hK hP hD hS 0 rfl rfl 10 (by decide) (hws _ mw_369) (fun _ h9 => h9) rfl (tyX4_ok 10 (by decide)) (bI_nar _) (bI_fit _) (Nat.le_of_ble_eq_true rfl) dX4_step_86 (fun H locs hP hD hS => ?_)
            have hP : va_P D vwCl (kX4 cB cI mo mb ma w_zf w_nf w_hf w_cf w_sp w_pc w_on w_wt false w_bg w_cn w_al (0 : Int32) w_ie w_ww (0 : Int32) w_mm w_bs) H := hP
            have hD : va_D A (kX4 cB cI mo mb ma w_zf w_nf w_hf w_cf w_sp w_pc w_on w_wt false w_bg w_cn w_al (0 : Int32) w_ie w_ww (0 : Int32) w_mm w_bs) := hD
            refine lv_aload_n hx hb dX4_step_89 rfl (lv_at hl 1 rfl) ?_
            refine lv_aload_n hx hb dX4_step_90 rfl (lv_at hl 1 rfl) ?_
            refine va_get (D := D) (ci := 4) (v := .int (bI w_wt)) (C := RX4) (T := TX4) (N := 18) hx hb hws inlX4 hown hK hP 0 rfl rfl 9 (by decide) (hws _ mw_371) (fun _ h9 => h9) rfl dX4_step_91 ?_
            refine va_put (D := D) (ci := 4) (v := .int (bI w_wt)) (ty := .boolean) (C := RX4) (T := TX4) (N := 18) hx hb hws inlX4 tyX4 tyX4_ok nmX4 hown hK hP hD hS 0 rfl rfl 16 (by decide) (hws _ mw_372) (fun _ h9 => h9) rfl (tyX4_ok 16 (by decide)) (bI_nar _) (bI_fit _) (Nat.le_of_ble_eq_true rfl) dX4_step_94 (fun H locs hP hD hS => ?_)
            have hP : va_P D vwCl (kX4 cB cI mo mb ma w_zf w_nf w_hf w_cf w_sp w_pc w_on w_wt false w_bg w_cn w_al (0 : Int32) w_ie w_wt (0 : Int32) w_mm w_bs) H := hP
            have hD : va_D A (kX4 cB cI mo mb ma w_zf w_nf w_hf w_cf w_sp w_pc w_on w_wt false w_bg w_cn w_al (0 : Int32) w_ie w_wt (0 : Int32) w_mm w_bs) := hD
            refine lv_aload_n hx hb dX4_step_97 rfl (lv_at hl 1 rfl) ?_
            refine lv_iconst (v := 0) hx hb dX4_step_98 (by decide) ?_
            refine va_put (D := D) (ci := 4) (v := .int (bI false)) (ty := .boolean) (C := RX4) (T := TX4) (N := 18) hx hb hws inlX4 tyX4 tyX4_ok nmX4 hown hK hP hD hS 0 rfl rfl 15 (by decide) (hws _ mw_373) (fun _ h9 => h9) rfl (tyX4_ok 15 (by decide)) (bI_nar _) (bI_fit _) (Nat.le_of_ble_eq_true rfl) dX4_step_99 (fun H locs hP hD hS => ?_)
            have hP : va_P D vwCl (kX4 cB cI mo mb ma w_zf w_nf w_hf w_cf w_sp w_pc w_on w_wt false w_bg w_cn w_al (0 : Int32) false w_wt (0 : Int32) w_mm w_bs) H := hP
            have hD : va_D A (kX4 cB cI mo mb ma w_zf w_nf w_hf w_cf w_sp w_pc w_on w_wt false w_bg w_cn w_al (0 : Int32) false w_wt (0 : Int32) w_mm w_bs) := hD
            refine lv_aload_n hx hb dX4_step_102 rfl (lv_at hl 1 rfl) ?_
            refine kc_Vv (wr := []) (As := []) (rest := []) (fun u9 => (kX4 cB cI mo mb ma (u9.1) (u9.2.1) (u9.2.2.1) (u9.2.2.2.1) (u9.2.2.2.2.1) (u9.2.2.2.2.2.1) (u9.2.2.2.2.2.2.1) (u9.2.2.2.2.2.2.2.1) (u9.2.2.2.2.2.2.2.2.1) (u9.2.2.2.2.2.2.2.2.2.1) (u9.2.2.2.2.2.2.2.2.2.2.1) w_al (u9.2.2.2.2.2.2.2.2.2.2.2.1) (u9.2.2.2.2.2.2.2.2.2.2.2.2.1) w_wt (0 : Int32) (u9.2.2.2.2.2.2.2.2.2.2.2.2.2.1) (u9.2.2.2.2.2.2.2.2.2.2.2.2.2.2))) ⟨hx, hb, hml, hown, hws⟩ hK hP hD hS hA hT (c_X4_instruction l D cB cI mo mb ma H.size w_zf w_nf w_hf w_cf w_sp w_pc w_on w_wt false w_bg w_cn w_al (0 : Int32) false w_wt (0 : Int32) w_mm w_bs ) (cwV 0 hws (gw_V mw_401 mw_402 mw_403 mw_5 mw_404) rfl rfl rfl hdX4_instruction ⟨Nat.le_of_ble_eq_true rfl, Nat.le_of_ble_eq_true rfl⟩) [0, 1, 2] [] [0, 1] [0, 1, 2] rfl rfl rfl rfl (by decide) rfl (fun _ => rfl) rfl 0 rfl rfl rfl rfl hl.1 rfl (Nat.le_of_ble_eq_true rfl) dX4_step_103 ⟨Nat.zero_le _, Nat.zero_le _⟩ (fun u9 H locs hw132 hP hD hS => ?_)
            obtain ⟨b117, b118, b119, b120, b121, b122, b123, b124, b125, b126, b127, b128, b129, b130, b131⟩ := u9
            have hP : va_P D vwCl (kX4 cB cI mo mb ma b117 b118 b119 b120 b121 b122 b123 b124 b125 b126 b127 w_al b128 b129 w_wt (0 : Int32) b130 b131) H := hP
            have hD : va_D A (kX4 cB cI mo mb ma b117 b118 b119 b120 b121 b122 b123 b124 b125 b126 b127 w_al b128 b129 w_wt (0 : Int32) b130 b131) := hD
            have hf := hf.trans (kE15 hw132)
            refine lv_aload_n hx hb dX4_step_106 rfl (lv_at hl 1 rfl) ?_
            refine va_get (D := D) (ci := 4) (v := .int (bI w_wt)) (C := RX4) (T := TX4) (N := 18) hx hb hws inlX4 hown hK hP 0 rfl rfl 16 (by decide) (hws _ mw_372) (fun _ h9 => h9) rfl dX4_step_107 ?_
            obtain ⟨TJ139, hTJ139⟩ : ∃ T9 : Bool × Bool, T9 = (kIf (kEq (bI w_wt) (0 : Int32)) (kIf (kEq (bI b129) (0 : Int32)) (b123, b124) (b123, true)) (kIf (kEq (bI b124) (0 : Int32)) (kIf (kEq (bI b129) (0 : Int32)) (b123, b124) (b123, true)) (true, false))) := ⟨_, rfl⟩
            have J139 : ∀ (b137 : Bool) (b138 : Bool), (b137, b138) = TJ139 → ∀ (H : Heap) (locs : List Loc) (ls : Array Slot), lv_has ls 2 [(1, .int x5), (0, .ref mo)] → va_P D vwCl (kX4 cB cI mo mb ma b117 b118 b119 b120 b121 b122 b137 b138 b125 b126 b127 w_al b128 b129 w_wt (0 : Int32) b130 b131) H → va_D A (kX4 cB cI mo mb ma b117 b118 b119 b120 b121 b122 b137 b138 b125 b126 b127 w_al b128 b129 w_wt (0 : Int32) b130 b131) → va_S A s.heap H locs → W p l e (headSpec wwX4_step rmX4_step).room s m ([.ref mo] : List Value).toArray below meth c H locs 0 0 Q (F0 m 145 ls []) := by
              intro b137 b138 eJ139 H locs ls hl hP hD hS
              have hf := hf.trans (kE2 (eJ139.trans hTJ139))
              refine lv_aload_n hx hb dX4_step_145 rfl (lv_at hl 1 rfl) ?_
              refine kc_Vv (wr := []) (As := []) (rest := []) (fun u9 => (kX4 cB cI mo mb ma b117 b118 b119 b120 b121 b122 b137 b138 b125 b126 (u9.1) (u9.2.1) b128 b129 w_wt (0 : Int32) (u9.2.2) b131)) ⟨hx, hb, hml, hown, hws⟩ hK hP hD hS hA hT (c_X4_time l D cB cI mo mb ma H.size b117 b118 b119 b120 b121 b122 b137 b138 b125 b126 b127 w_al b128 b129 w_wt (0 : Int32) b130 b131 ) (cwV 0 hws (gw_V mw_389 mw_390 mw_391 mw_5 mw_392) rfl rfl rfl hdX4_time ⟨Nat.le_of_ble_eq_true rfl, Nat.le_of_ble_eq_true rfl⟩) [0, 1, 2] [] [0, 1] [0, 1, 2] rfl rfl rfl rfl (by decide) rfl (fun _ => rfl) rfl 0 rfl rfl rfl rfl hl.1 rfl (Nat.le_of_ble_eq_true rfl) dX4_step_146 ⟨Nat.zero_le _, Nat.zero_le _⟩ (fun u9 H locs hw143 hP hD hS => ?_)
              obtain ⟨b140, b141, b142⟩ := u9
              have hP : va_P D vwCl (kX4 cB cI mo mb ma b117 b118 b119 b120 b121 b122 b137 b138 b125 b126 b140 b141 b128 b129 w_wt (0 : Int32) b142 b131) H := hP
              have hD : va_D A (kX4 cB cI mo mb ma b117 b118 b119 b120 b121 b122 b137 b138 b125 b126 b140 b141 b128 b129 w_wt (0 : Int32) b142 b131) := hD
              have hf := hf.trans (kE3 hw143)
              refine lv_iconst (v := 0) hx hb dX4_step_149 (by decide) ?_
              rw [← hQ]
              exact W.iret (v := (0 : Int32)) hx hb hr (fun t ht hW => ⟨⟨(0 : Int32), (b117, b118, b119, b120, b121, b122, b137, b138, b125, b126, b140, b141, b128, b129, w_wt, (0 : Int32), b142, b131), rfl, hf.symm, by rw [ht]; exact hP, va_K.moved hW.alike hK, hD⟩, hS.F ht⟩) hS.2.2 dX4_step_150
            have hf := hTJ139
            refine lv_if_eq (tgt := 133) hx hb dX4_step_110 (by decide) (fun c133 => ?_) (fun c133 => ?_)
            · have hf := hf.trans (kt_eq c133)
              refine lv_aload_n hx hb dX4_step_133 rfl (lv_at hl 1 rfl) ?_
              refine va_get (D := D) (ci := 4) (v := .int (bI b129)) (C := RX4) (T := TX4) (N := 18) hx hb hws inlX4 hown hK hP 0 rfl rfl 15 (by decide) (hws _ mw_373) (fun _ h9 => h9) rfl dX4_step_134 ?_
              refine lv_if_eq (tgt := 145) hx hb dX4_step_137 (by decide) (fun c134 => ?_) (fun c134 => ?_)
              · have hf := hf.trans (kt_eq c134)
                exact J139 b123 b124 hf.symm H locs ls (lv_sub hl [0, 1] rfl) hP hD hS
              · have hf := hf.trans (kf_eq c134)
                refine lv_aload_n hx hb dX4_step_140 rfl (lv_at hl 1 rfl) ?_
                refine lv_iconst (v := 1) hx hb dX4_step_141 (by decide) ?_
                refine va_put (D := D) (ci := 4) (v := .int (bI true)) (ty := .boolean) (C := RX4) (T := TX4) (N := 18) hx hb hws inlX4 tyX4 tyX4_ok nmX4 hown hK hP hD hS 0 rfl rfl 9 (by decide) (hws _ mw_371) (fun _ h9 => h9) rfl (tyX4_ok 9 (by decide)) (bI_nar _) (bI_fit _) (Nat.le_of_ble_eq_true rfl) dX4_step_142 (fun H locs hP hD hS => ?_)
                have hP : va_P D vwCl (kX4 cB cI mo mb ma b117 b118 b119 b120 b121 b122 b123 true b125 b126 b127 w_al b128 b129 w_wt (0 : Int32) b130 b131) H := hP
                have hD : va_D A (kX4 cB cI mo mb ma b117 b118 b119 b120 b121 b122 b123 true b125 b126 b127 w_al b128 b129 w_wt (0 : Int32) b130 b131) := hD
                exact J139 b123 true hf.symm H locs ls (lv_sub hl [0, 1] rfl) hP hD hS
            · have hf := hf.trans (kf_eq c133)
              refine lv_aload_n hx hb dX4_step_113 rfl (lv_at hl 1 rfl) ?_
              refine va_get (D := D) (ci := 4) (v := .int (bI b124)) (C := RX4) (T := TX4) (N := 18) hx hb hws inlX4 hown hK hP 0 rfl rfl 9 (by decide) (hws _ mw_371) (fun _ h9 => h9) rfl dX4_step_114 ?_
              refine lv_if_eq (tgt := 133) hx hb dX4_step_117 (by decide) (fun c135 => ?_) (fun c135 => ?_)
              · have hf := hf.trans (kt_eq c135)
                refine lv_aload_n hx hb dX4_step_133 rfl (lv_at hl 1 rfl) ?_
                refine va_get (D := D) (ci := 4) (v := .int (bI b129)) (C := RX4) (T := TX4) (N := 18) hx hb hws inlX4 hown hK hP 0 rfl rfl 15 (by decide) (hws _ mw_373) (fun _ h9 => h9) rfl dX4_step_134 ?_
                refine lv_if_eq (tgt := 145) hx hb dX4_step_137 (by decide) (fun c136 => ?_) (fun c136 => ?_)
                · have hf := hf.trans (kt_eq c136)
                  exact J139 b123 b124 hf.symm H locs ls (lv_sub hl [0, 1] rfl) hP hD hS
                · have hf := hf.trans (kf_eq c136)
                  refine lv_aload_n hx hb dX4_step_140 rfl (lv_at hl 1 rfl) ?_
                  refine lv_iconst (v := 1) hx hb dX4_step_141 (by decide) ?_
                  refine va_put (D := D) (ci := 4) (v := .int (bI true)) (ty := .boolean) (C := RX4) (T := TX4) (N := 18) hx hb hws inlX4 tyX4 tyX4_ok nmX4 hown hK hP hD hS 0 rfl rfl 9 (by decide) (hws _ mw_371) (fun _ h9 => h9) rfl (tyX4_ok 9 (by decide)) (bI_nar _) (bI_fit _) (Nat.le_of_ble_eq_true rfl) dX4_step_142 (fun H locs hP hD hS => ?_)
                  have hP : va_P D vwCl (kX4 cB cI mo mb ma b117 b118 b119 b120 b121 b122 b123 true b125 b126 b127 w_al b128 b129 w_wt (0 : Int32) b130 b131) H := hP
                  have hD : va_D A (kX4 cB cI mo mb ma b117 b118 b119 b120 b121 b122 b123 true b125 b126 b127 w_al b128 b129 w_wt (0 : Int32) b130 b131) := hD
                  exact J139 b123 true hf.symm H locs ls (lv_sub hl [0, 1] rfl) hP hD hS
              · have hf := hf.trans (kf_eq c135)
                refine lv_aload_n hx hb dX4_step_120 rfl (lv_at hl 1 rfl) ?_
                refine lv_iconst (v := 0) hx hb dX4_step_121 (by decide) ?_
                refine va_put (D := D) (ci := 4) (v := .int (bI false)) (ty := .boolean) (C := RX4) (T := TX4) (N := 18) hx hb hws inlX4 tyX4 tyX4_ok nmX4 hown hK hP hD hS 0 rfl rfl 9 (by decide) (hws _ mw_371) (fun _ h9 => h9) rfl (tyX4_ok 9 (by decide)) (bI_nar _) (bI_fit _) (Nat.le_of_ble_eq_true rfl) dX4_step_122 (fun H locs hP hD hS => ?_)
                have hP : va_P D vwCl (kX4 cB cI mo mb ma b117 b118 b119 b120 b121 b122 b123 false b125 b126 b127 w_al b128 b129 w_wt (0 : Int32) b130 b131) H := hP
                have hD : va_D A (kX4 cB cI mo mb ma b117 b118 b119 b120 b121 b122 b123 false b125 b126 b127 w_al b128 b129 w_wt (0 : Int32) b130 b131) := hD
                refine lv_aload_n hx hb dX4_step_125 rfl (lv_at hl 1 rfl) ?_
                refine lv_iconst (v := 1) hx hb dX4_step_126 (by decide) ?_
                refine va_put (D := D) (ci := 4) (v := .int (bI true)) (ty := .boolean) (C := RX4) (T := TX4) (N := 18) hx hb hws inlX4 tyX4 tyX4_ok nmX4 hown hK hP hD hS 0 rfl rfl 8 (by decide) (hws _ mw_368) (fun _ h9 => h9) rfl (tyX4_ok 8 (by decide)) (bI_nar _) (bI_fit _) (Nat.le_of_ble_eq_true rfl) dX4_step_127 (fun H locs hP hD hS => ?_)
                have hP : va_P D vwCl (kX4 cB cI mo mb ma b117 b118 b119 b120 b121 b122 true false b125 b126 b127 w_al b128 b129 w_wt (0 : Int32) b130 b131) H := hP
                have hD : va_D A (kX4 cB cI mo mb ma b117 b118 b119 b120 b121 b122 true false b125 b126 b127 w_al b128 b129 w_wt (0 : Int32) b130 b131) := hD
                refine lv_goto (tgt := 145) hx hb dX4_step_130 (by decide) ?_
                exact J139 true false hf.symm H locs ls (lv_sub hl [0, 1] rfl) hP hD hS
          · have hf := hf.trans (kf_eq c116)
            refine lv_iconst (v := 2) hx hb dX4_step_82 (by decide) ?_
            rw [← hQ]
            exact W.iret (v := (2 : Int32)) hx hb hr (fun t ht hW => ⟨⟨(2 : Int32), (w_zf, w_nf, w_hf, w_cf, w_sp, w_pc, w_on, w_wt, w_ht, w_bg, w_cn, w_al, (0 : Int32), w_ie, w_ww, (0 : Int32), w_mm, w_bs), rfl, hf.symm, by rw [ht]; exact hP, va_K.moved hW.alike hK, hD⟩, hS.F ht⟩) hS.2.2 dX4_step_83
        · have hf := hf.trans (kt_eq c111)
          refine lv_aload_n hx hb dX4_step_57 rfl (lv_at hl 1 rfl) ?_
          refine lv_iconst (v := 1) hx hb dX4_step_58 (by decide) ?_
          refine va_put (D := D) (ci := 4) (v := .int (1 : Int32)) (ty := .int) (C := RX4) (T := TX4) (N := 18) hx hb hws inlX4 tyX4 tyX4_ok nmX4 hown hK hP hD hS 0 rfl rfl 14 (by decide) (hws _ mw_367) (fun _ h9 => h9) rfl (tyX4_ok 14 (by decide)) rfl rfl (Nat.le_of_ble_eq_true rfl) dX4_step_59 (fun H locs hP hD hS => ?_)
          have hP : va_P D vwCl (kX4 cB cI mo mb ma w_zf w_nf w_hf w_cf w_sp w_pc w_on w_wt w_ht w_bg w_cn w_al (1 : Int32) w_ie w_ww (0 : Int32) w_mm w_bs) H := hP
          have hD : va_D A (kX4 cB cI mo mb ma w_zf w_nf w_hf w_cf w_sp w_pc w_on w_wt w_ht w_bg w_cn w_al (1 : Int32) w_ie w_ww (0 : Int32) w_mm w_bs) := hD
          refine lv_aload_n hx hb dX4_step_62 rfl (lv_at hl 1 rfl) ?_
          refine kc_Vv (wr := []) (As := []) (rest := []) (fun u9 => (kX4 cB cI mo mb ma w_zf w_nf w_hf w_cf w_sp w_pc w_on w_wt w_ht w_bg (u9.1) (u9.2.1) (1 : Int32) w_ie w_ww (0 : Int32) (u9.2.2) w_bs)) ⟨hx, hb, hml, hown, hws⟩ hK hP hD hS hA hT (c_X4_time l D cB cI mo mb ma H.size w_zf w_nf w_hf w_cf w_sp w_pc w_on w_wt w_ht w_bg w_cn w_al (1 : Int32) w_ie w_ww (0 : Int32) w_mm w_bs ) (cwV 0 hws (gw_V mw_389 mw_390 mw_391 mw_5 mw_392) rfl rfl rfl hdX4_time ⟨Nat.le_of_ble_eq_true rfl, Nat.le_of_ble_eq_true rfl⟩) [0, 1, 2] [] [0, 1] [0, 1, 2] rfl rfl rfl rfl (by decide) rfl (fun _ => rfl) rfl 0 rfl rfl rfl rfl hl.1 rfl (Nat.le_of_ble_eq_true rfl) dX4_step_63 ⟨Nat.zero_le _, Nat.zero_le _⟩ (fun u9 H locs hw147 hP hD hS => ?_)
          obtain ⟨b144, b145, b146⟩ := u9
          have hP : va_P D vwCl (kX4 cB cI mo mb ma w_zf w_nf w_hf w_cf w_sp w_pc w_on w_wt w_ht w_bg b144 b145 (1 : Int32) w_ie w_ww (0 : Int32) b146 w_bs) H := hP
          have hD : va_D A (kX4 cB cI mo mb ma w_zf w_nf w_hf w_cf w_sp w_pc w_on w_wt w_ht w_bg b144 b145 (1 : Int32) w_ie w_ww (0 : Int32) b146 w_bs) := hD
          have hf := hf.trans (kE3 hw147)
          refine lv_iconst (v := 1) hx hb dX4_step_66 (by decide) ?_
          rw [← hQ]
          exact W.iret (v := (1 : Int32)) hx hb hr (fun t ht hW => ⟨⟨(1 : Int32), (w_zf, w_nf, w_hf, w_cf, w_sp, w_pc, w_on, w_wt, w_ht, w_bg, b144, b145, (1 : Int32), w_ie, w_ww, (0 : Int32), b146, w_bs), rfl, hf.symm, by rw [ht]; exact hP, va_K.moved hW.alike hK, hD⟩, hS.F ht⟩) hS.2.2 dX4_step_67
    · have hf := hf.trans (kf_le c77)
      refine lv_aload_n hx hb dX4_step_38 rfl (lv_at hl 1 rfl) ?_
      refine lv_iload_n hx hb dX4_step_39 rfl (lv_at hl 0 rfl) ?_
      refine kc_Vv (wr := []) (As := [.int x5]) (rest := []) (fun u9 => (kX4 cB cI mo mb ma w_zf w_nf w_hf w_cf (u9.1) (u9.2.1) (u9.2.2.1) w_wt (u9.2.2.2.1) w_bg (u9.2.2.2.2.1) w_al (u9.2.2.2.2.2.1) w_ie w_ww (0 : Int32) (u9.2.2.2.2.2.2) w_bs)) ⟨hx, hb, hml, hown, hws⟩ hK hP hD hS hA hT (c_X4_dispatch l D cB cI mo mb ma H.size w_zf w_nf w_hf w_cf w_sp w_pc w_on w_wt w_ht w_bg w_cn w_al (0 : Int32) w_ie w_ww (0 : Int32) w_mm w_bs x5 (kd_pre ex5 c77)) (cwV 1 hws (gw_V mw_374 mw_375 mw_376 mw_5 mw_377) rfl rfl rfl hdX4_dispatch ⟨Nat.le_of_ble_eq_true rfl, Nat.le_of_ble_eq_true rfl⟩) [0, 1, 2] [] [0, 1] [0, 1, 2] rfl rfl rfl rfl (by decide) rfl (fun _ => rfl) rfl 0 rfl rfl rfl rfl hl.1 rfl (Nat.le_of_ble_eq_true rfl) dX4_step_40 ⟨Nat.zero_le _, Nat.zero_le _⟩ (fun u9 H locs hw155 hP hD hS => ?_)
      obtain ⟨b148, b149, b150, b151, b152, b153, b154⟩ := u9
      have hP : va_P D vwCl (kX4 cB cI mo mb ma w_zf w_nf w_hf w_cf b148 b149 b150 w_wt b151 w_bg b152 w_al b153 w_ie w_ww (0 : Int32) b154 w_bs) H := hP
      have hD : va_D A (kX4 cB cI mo mb ma w_zf w_nf w_hf w_cf b148 b149 b150 w_wt b151 w_bg b152 w_al b153 w_ie w_ww (0 : Int32) b154 w_bs) := hD
      have hf := hf.trans (kE7 hw155)
      refine lv_goto (tgt := 145) hx hb dX4_step_43 (by decide) ?_
      refine lv_aload_n hx hb dX4_step_145 rfl (lv_at hl 1 rfl) ?_
      refine kc_Vv (wr := []) (As := []) (rest := []) (fun u9 => (kX4 cB cI mo mb ma w_zf w_nf w_hf w_cf b148 b149 b150 w_wt b151 w_bg (u9.1) (u9.2.1) b153 w_ie w_ww (0 : Int32) (u9.2.2) w_bs)) ⟨hx, hb, hml, hown, hws⟩ hK hP hD hS hA hT (c_X4_time l D cB cI mo mb ma H.size w_zf w_nf w_hf w_cf b148 b149 b150 w_wt b151 w_bg b152 w_al b153 w_ie w_ww (0 : Int32) b154 w_bs ) (cwV 0 hws (gw_V mw_389 mw_390 mw_391 mw_5 mw_392) rfl rfl rfl hdX4_time ⟨Nat.le_of_ble_eq_true rfl, Nat.le_of_ble_eq_true rfl⟩) [0, 1, 2] [] [0, 1] [0, 1, 2] rfl rfl rfl rfl (by decide) rfl (fun _ => rfl) rfl 0 rfl rfl rfl rfl hl.1 rfl (Nat.le_of_ble_eq_true rfl) dX4_step_146 ⟨Nat.zero_le _, Nat.zero_le _⟩ (fun u9 H locs hw159 hP hD hS => ?_)
      obtain ⟨b156, b157, b158⟩ := u9
      have hP : va_P D vwCl (kX4 cB cI mo mb ma w_zf w_nf w_hf w_cf b148 b149 b150 w_wt b151 w_bg b156 b157 b153 w_ie w_ww (0 : Int32) b158 w_bs) H := hP
      have hD : va_D A (kX4 cB cI mo mb ma w_zf w_nf w_hf w_cf b148 b149 b150 w_wt b151 w_bg b156 b157 b153 w_ie w_ww (0 : Int32) b158 w_bs) := hD
      have hf := hf.trans (kE3 hw159)
      refine lv_iconst (v := 0) hx hb dX4_step_149 (by decide) ?_
      rw [← hQ]
      exact W.iret (v := (0 : Int32)) hx hb hr (fun t ht hW => ⟨⟨(0 : Int32), (w_zf, w_nf, w_hf, w_cf, b148, b149, b150, w_wt, b151, w_bg, b156, b157, b153, w_ie, w_ww, (0 : Int32), b158, w_bs), rfl, hf.symm, by rw [ht]; exact hP, va_K.moved hW.alike hK, hD⟩, hS.F ht⟩) hS.2.2 dX4_step_150
def fX4_run_L (a1 : Int32) (q9 : Int32 × Bool × Bool × Bool × Bool × Int32 × Int32 × Bool × Bool × Bool × Bool × Int32 × Int32 × Int32 × Bool × Bool × Int32 × (Nat → Int32) × (Nat → Int32)) : (Int32 × Bool × Bool × Bool × Bool × Int32 × Int32 × Bool × Bool × Bool × Bool × Int32 × Int32 × Int32 × Bool × Bool × Int32 × (Nat → Int32) × (Nat → Int32)) ⊕ (Int32 × Bool × Bool × Bool × Bool × Int32 × Int32 × Bool × Bool × Bool × Bool × Int32 × Int32 × Int32 × Bool × Bool × Int32 × (Nat → Int32) × (Nat → Int32)) := kU19 q9 (fun (x3 : Int32) (b4 : Bool) (b5 : Bool) (b6 : Bool) (b7 : Bool) (b8 : Int32) (b9 : Int32) (b10 : Bool) (b11 : Bool) (b12 : Bool) (b13 : Bool) (b14 : Int32) (b15 : Int32) (b16 : Int32) (b17 : Bool) (b18 : Bool) (b19 : Int32) (b20 : Nat → Int32) (b21 : Nat → Int32) => (kIf (kLe a1 x3) (Sum.inr (x3, b4, b5, b6, b7, b8, b9, b10, b11, b12, b13, b14, b15, b16, b17, b18, b19, b20, b21)) (kU19 (fX4_step b4 b5 b6 b7 b8 b9 b10 b11 b12 b13 b14 b15 b16 b17 b18 b19 b20 b21) (fun (r42 : Int32) (b23 : Bool) (b24 : Bool) (b25 : Bool) (b26 : Bool) (b27 : Int32) (b28 : Int32) (b29 : Bool) (b30 : Bool) (b31 : Bool) (b32 : Bool) (b33 : Int32) (b34 : Int32) (b35 : Int32) (b36 : Bool) (b37 : Bool) (b38 : Int32) (b39 : Nat → Int32) (b40 : Nat → Int32) => (kIf (kLe (2 : Int32) r42) (Sum.inr (x3, b23, b24, b25, b26, b27, b28, b29, b30, b31, b32, b33, b34, b35, b36, b37, b38, b39, b40)) (kU1 (x3 + (1 : Int32)) (fun (x44 : Int32) => Sum.inl (x44, b23, b24, b25, b26, b27, b28, b29, b30, b31, b32, b33, b34, b35, b36, b37, b38, b39, b40))))))))
def fX4_run (w_zf : Bool) (w_nf : Bool) (w_hf : Bool) (w_cf : Bool) (w_sp : Int32) (w_pc : Int32) (w_on : Bool) (w_wt : Bool) (w_ht : Bool) (w_bg : Bool) (w_cn : Int32) (w_al : Int32) (w_cl : Int32) (w_ie : Bool) (w_ww : Bool) (w_th : Int32) (w_mm : Nat → Int32) (w_bs : Nat → Int32) (a1 : Int32) : Int32 × Bool × Bool × Bool × Bool × Int32 × Int32 × Bool × Bool × Bool × Bool × Int32 × Int32 × Int32 × Bool × Bool × Int32 × (Nat → Int32) × (Nat → Int32) := (kIf (kLt a1 (1 : Int32)) ((-1 : Int32), w_zf, w_nf, w_hf, w_cf, w_sp, w_pc, w_on, w_wt, w_ht, w_bg, w_cn, w_al, w_cl, w_ie, w_ww, (0 : Int32), w_mm, w_bs) (kIf (kLe a1 (2000 : Int32)) (kIt (fX4_run_L a1) (0, w_zf, w_nf, w_hf, w_cf, w_sp, w_pc, w_on, w_wt, w_ht, w_bg, w_cn, w_al, w_cl, w_ie, w_ww, (0 : Int32), w_mm, w_bs) (a1.toNatClampNeg + 1) ((0 : Int32), w_zf, w_nf, w_hf, w_cf, w_sp, w_pc, w_on, w_wt, w_ht, w_bg, w_cn, w_al, w_cl, w_ie, w_ww, (0 : Int32), w_mm, w_bs)) ((-1 : Int32), w_zf, w_nf, w_hf, w_cf, w_sp, w_pc, w_on, w_wt, w_ht, w_bg, w_cn, w_al, w_cl, w_ie, w_ww, (0 : Int32), w_mm, w_bs)))
def rmX4_run : Room := { frames := 8, cells := 0, slots := 0, locals := 178 }
def wwX4_run : List Cond := Cond.code yX4_run cX4_run 3 (some .int) :: wsL_law
theorem hdX4_run : yX4_run.cls = RX4 ∧ yX4_run.cls ≠ "java/lang/invoke/MethodHandle" ∧ yX4_run.cls ≠ "java/lang/invoke/VarHandle" ∧ (parseMethodDescriptor yX4_run.desc).map (fun d => d.parameters.length) = some 1 := by decide +kernel
set_option maxHeartbeats 4000000 in
set_option maxRecDepth 100000 in
theorem c_X4_run (l : Launch) (D : va_G) (cB : ClassId) (cI : ClassId) (mo mb ma sz : Nat) (w_zf : Bool) (w_nf : Bool) (w_hf : Bool) (w_cf : Bool) (w_sp : Int32) (w_pc : Int32) (w_on : Bool) (w_wt : Bool) (w_ht : Bool) (w_bg : Bool) (w_cn : Int32) (w_al : Int32) (w_cl : Int32) (w_ie : Bool) (w_ww : Bool) (w_th : Int32) (w_mm : Nat → Int32) (w_bs : Nat → Int32) (a1 : Int32)  : Met l yX4_run wwX4_run rmX4_run (va_Pc [.ref mo, .int a1] (kp D (kX4 cB cI mo mb ma w_zf w_nf w_hf w_cf w_sp w_pc w_on w_wt w_ht w_bg w_cn w_al w_cl w_ie w_ww w_th w_mm w_bs) [(cB, .byte), (cI, .int)] sz)) (va_Qi (fun (r : Int32) (u9 : Bool × Bool × Bool × Bool × Int32 × Int32 × Bool × Bool × Bool × Bool × Int32 × Int32 × Int32 × Bool × Bool × Int32 × (Nat → Int32) × (Nat → Int32)) => (r, u9) = fX4_run w_zf w_nf w_hf w_cf w_sp w_pc w_on w_wt w_ht w_bg w_cn w_al w_cl w_ie w_ww w_th w_mm w_bs a1) (fun u9 t => kq D (kX4 cB cI mo mb ma (u9.1) (u9.2.1) (u9.2.2.1) (u9.2.2.2.1) (u9.2.2.2.2.1) (u9.2.2.2.2.2.1) (u9.2.2.2.2.2.2.1) (u9.2.2.2.2.2.2.2.1) (u9.2.2.2.2.2.2.2.2.1) (u9.2.2.2.2.2.2.2.2.2.1) (u9.2.2.2.2.2.2.2.2.2.2.1) (u9.2.2.2.2.2.2.2.2.2.2.2.1) (u9.2.2.2.2.2.2.2.2.2.2.2.2.1) (u9.2.2.2.2.2.2.2.2.2.2.2.2.2.1) (u9.2.2.2.2.2.2.2.2.2.2.2.2.2.2.1) (u9.2.2.2.2.2.2.2.2.2.2.2.2.2.2.2.1) (u9.2.2.2.2.2.2.2.2.2.2.2.2.2.2.2.2.1) (u9.2.2.2.2.2.2.2.2.2.2.2.2.2.2.2.2.2)) [(cB, .byte), (cI, .int)] (va_A (kX4 cB cI mo mb ma w_zf w_nf w_hf w_cf w_sp w_pc w_on w_wt w_ht w_bg w_cn w_al w_cl w_ie w_ww w_th w_mm w_bs) sz) t) (va_A (kX4 cB cI mo mb ma w_zf w_nf w_hf w_cf w_sp w_pc w_on w_wt w_ht w_bg w_cn w_al w_cl w_ie w_ww w_th w_mm w_bs) sz)) 0 0 (va_A (kX4 cB cI mo mb ma w_zf w_nf w_hf w_cf w_sp w_pc w_on w_wt w_ht w_bg w_cn w_al w_cl w_ie w_ww w_th w_mm w_bs) sz) := by
  refine Met.ofW (cc := cX4_run) (maxL := 3) (ret := (some .int)) (by decide) rfl ?_
  intro p e s m args below meth c s₁ B hml hv
  obtain ⟨rfl, hsz, hP, hK, hD0, hT⟩ := hv
  have hx := B.exec
  have hb := B.bytes
  have hr := B.returns
  have hts := atoms_spec (ws := wwX4_run) B.pre
  have hws : ∀ w ∈ wsL_law, w.before _ s = true := fun w h => hts w (List.mem_cons_of_mem _ h)
  have hown : s.vm.findClass RX4 = some m.cls := findClass_of_methodNamed B.named
  have hlocks := B.notSynchronized
  subst hsz
  have hD := hD0.self (sz := s.heap.size)
  generalize hAe : va_A (kX4 cB cI mo mb ma w_zf w_nf w_hf w_cf w_sp w_pc w_on w_wt w_ht w_bg w_cn w_al w_cl w_ie w_ww w_th w_mm w_bs) s.heap.size = A at hD hT ⊢
  have hA : ∀ q : Nat, s.heap.size ≤ q → A q := fun q h => by rw [← hAe]; exact Or.inr h
  have hS : va_S A s.heap s.heap [] := va_S.rf
  have hl := lv_entry ([.ref mo, .int a1]) (n := 3) (Nat.le_of_ble_eq_true rfl)
  rw [lg_entry_eq]
  generalize (lg_sl ([.ref mo, .int a1]) ++ List.replicate (3 - (lg_sl ([.ref mo, .int a1])).length) Slot.unset).toArray = ls at hl ⊢
  have hl : lv_has ls 3 [(0, .ref mo), (1, .int a1)] := hl
  generalize hQ : MQ _ _ _ _ _ _ _ = Q
  obtain ⟨H, hHe⟩ : ∃ H : Heap, H = s.heap := ⟨_, rfl⟩
  obtain ⟨locs, hle⟩ : ∃ L : List Loc, L = [] := ⟨_, rfl⟩
  have hP : va_P D vwCl (kX4 cB cI mo mb ma w_zf w_nf w_hf w_cf w_sp w_pc w_on w_wt w_ht w_bg w_cn w_al w_cl w_ie w_ww w_th w_mm w_bs) H := by rw [hHe]; exact hP
  have hS : va_S A s.heap H locs := by rw [hHe, hle]; exact hS
  refine kw_start hHe.symm hle.symm ?_
  have hf : fX4_run w_zf w_nf w_hf w_cf w_sp w_pc w_on w_wt w_ht w_bg w_cn w_al w_cl w_ie w_ww w_th w_mm w_bs a1 = fX4_run w_zf w_nf w_hf w_cf w_sp w_pc w_on w_wt w_ht w_bg w_cn w_al w_cl w_ie w_ww w_th w_mm w_bs a1 := rfl
  refine lv_aload_n hx hb dX4_run_0 rfl (lv_at hl 0 rfl) ?_
  refine lv_iconst (v := 0) hx hb dX4_run_1 (by decide) ?_
  refine va_put (D := D) (ci := 4) (v := .int (0 : Int32)) (ty := .int) (C := RX4) (T := TX4) (N := 18) hx hb hws inlX4 tyX4 tyX4_ok nmX4 hown hK hP hD hS 0 rfl rfl 17 (by decide) (hws _ mw_60) (fun _ h9 => h9) rfl (tyX4_ok 17 (by decide)) rfl rfl (Nat.le_of_ble_eq_true rfl) dX4_run_2 (fun H locs hP hD hS => ?_)
  have hP : va_P D vwCl (kX4 cB cI mo mb ma w_zf w_nf w_hf w_cf w_sp w_pc w_on w_wt w_ht w_bg w_cn w_al w_cl w_ie w_ww (0 : Int32) w_mm w_bs) H := hP
  have hD : va_D A (kX4 cB cI mo mb ma w_zf w_nf w_hf w_cf w_sp w_pc w_on w_wt w_ht w_bg w_cn w_al w_cl w_ie w_ww (0 : Int32) w_mm w_bs) := hD
  refine lv_iload_n hx hb dX4_run_5 rfl (lv_at hl 1 rfl) ?_
  refine lv_iconst (v := 1) hx hb dX4_run_6 (by decide) ?_
  refine lv_icmp_lt (tgt := 17) hx hb dX4_run_7 (by decide) (fun c1 => ?_) (fun c1 => ?_)
  · have hf := hf.trans (kt_lt c1)
    refine lv_iconst (v := -1) hx hb dX4_run_17 (by decide) ?_
    rw [← hQ]
    exact W.iret (v := (-1 : Int32)) hx hb hr (fun t ht hW => ⟨⟨(-1 : Int32), (w_zf, w_nf, w_hf, w_cf, w_sp, w_pc, w_on, w_wt, w_ht, w_bg, w_cn, w_al, w_cl, w_ie, w_ww, (0 : Int32), w_mm, w_bs), rfl, hf.symm, by rw [ht]; exact hP, va_K.moved hW.alike hK, hD⟩, hS.F ht⟩) hS.2.2 dX4_run_18
  · have hf := hf.trans (kf_lt c1)
    refine lv_iload_n hx hb dX4_run_10 rfl (lv_at hl 1 rfl) ?_
    refine lv_sipush (v := 2000) hx hb dX4_run_11 (by decide) ?_
    refine lv_icmp_le (tgt := 19) hx hb dX4_run_14 (by decide) (fun c2 => ?_) (fun c2 => ?_)
    · have hf := hf.trans (kt_le c2)
      refine lv_iconst (v := 0) hx hb dX4_run_19 (by decide) ?_
      refine lv_istore_n (lv' := [(2, .int (0 : Int32)), (0, .ref mo), (1, .int a1)]) hx hb dX4_run_20 rfl hl (by decide) rfl (fun ls hl => ?_)
      have hLp : ∀ (n9 : Nat) (x3 : Int32) (b4 : Bool) (b5 : Bool) (b6 : Bool) (b7 : Bool) (b8 : Int32) (b9 : Int32) (b10 : Bool) (b11 : Bool) (b12 : Bool) (b13 : Bool) (b14 : Int32) (b15 : Int32) (b16 : Int32) (b17 : Bool) (b18 : Bool) (b19 : Int32) (b20 : Nat → Int32) (b21 : Nat → Int32), kT a1.toNatClampNeg x3 n9 → fX4_run w_zf w_nf w_hf w_cf w_sp w_pc w_on w_wt w_ht w_bg w_cn w_al w_cl w_ie w_ww w_th w_mm w_bs a1 = kIt (fX4_run_L a1) (0, w_zf, w_nf, w_hf, w_cf, w_sp, w_pc, w_on, w_wt, w_ht, w_bg, w_cn, w_al, w_cl, w_ie, w_ww, (0 : Int32), w_mm, w_bs) n9 (x3, b4, b5, b6, b7, b8, b9, b10, b11, b12, b13, b14, b15, b16, b17, b18, b19, b20, b21) → ∀ (H : Heap) (locs : List Loc) (ls : Array Slot), lv_has ls 3 [(2, .int x3), (0, .ref mo), (1, .int a1)] → va_P D vwCl (kX4 cB cI mo mb ma b4 b5 b6 b7 b8 b9 b10 b11 b12 b13 b14 b15 b16 b17 b18 b19 b20 b21) H → va_D A (kX4 cB cI mo mb ma b4 b5 b6 b7 b8 b9 b10 b11 b12 b13 b14 b15 b16 b17 b18 b19 b20 b21) → va_S A s.heap H locs → W p l e (headSpec wwX4_run rmX4_run).room s m ([.ref mo, .int a1] : List Value).toArray below meth c H locs 0 0 Q (F0 m 21 ls []) := by
        intro n9
        induction n9 with
        | zero => intro x3 b4 b5 b6 b7 b8 b9 b10 b11 b12 b13 b14 b15 b16 b17 b18 b19 b20 b21 ht9 hF H locs ls hl hP hD hS; exact absurd ht9 kT_0
        | succ n9 ih =>
          intro x3 b4 b5 b6 b7 b8 b9 b10 b11 b12 b13 b14 b15 b16 b17 b18 b19 b20 b21 ht9 hF H locs ls hl hP hD hS
          have hf : fX4_run_L a1 (x3, b4, b5, b6, b7, b8, b9, b10, b11, b12, b13, b14, b15, b16, b17, b18, b19, b20, b21) = _ := kE19 rfl
          refine lv_iload_n hx hb dX4_run_21 rfl (lv_at hl 0 rfl) ?_
          refine lv_iload_n hx hb dX4_run_22 rfl (lv_at hl 2 rfl) ?_
          refine lv_icmp_ge (tgt := 40) hx hb dX4_run_23 (by decide) (fun c22 => ?_) (fun c22 => ?_)
          · have hf := hf.trans (kt_le c22)
            refine lv_iload_n hx hb dX4_run_40 rfl (lv_at hl 0 rfl) ?_
            have hf := hF.trans (kI_inr hf)
            rw [← hQ]
            exact W.iret (v := x3) hx hb hr (fun t ht hW => ⟨⟨x3, (b4, b5, b6, b7, b8, b9, b10, b11, b12, b13, b14, b15, b16, b17, b18, b19, b20, b21), rfl, hf.symm, by rw [ht]; exact hP, va_K.moved hW.alike hK, hD⟩, hS.F ht⟩) hS.2.2 dX4_run_41
          · have hf := hf.trans (kf_le c22)
            refine lv_aload_n hx hb dX4_run_26 rfl (lv_at hl 1 rfl) ?_
            refine kc_Vi (wr := []) (As := []) (rest := []) (fun u9 => (kX4 cB cI mo mb ma (u9.1) (u9.2.1) (u9.2.2.1) (u9.2.2.2.1) (u9.2.2.2.2.1) (u9.2.2.2.2.2.1) (u9.2.2.2.2.2.2.1) (u9.2.2.2.2.2.2.2.1) (u9.2.2.2.2.2.2.2.2.1) (u9.2.2.2.2.2.2.2.2.2.1) (u9.2.2.2.2.2.2.2.2.2.2.1) (u9.2.2.2.2.2.2.2.2.2.2.2.1) (u9.2.2.2.2.2.2.2.2.2.2.2.2.1) (u9.2.2.2.2.2.2.2.2.2.2.2.2.2.1) (u9.2.2.2.2.2.2.2.2.2.2.2.2.2.2.1) (u9.2.2.2.2.2.2.2.2.2.2.2.2.2.2.2.1) (u9.2.2.2.2.2.2.2.2.2.2.2.2.2.2.2.2.1) (u9.2.2.2.2.2.2.2.2.2.2.2.2.2.2.2.2.2))) ⟨hx, hb, hml, hown, hws⟩ hK hP hD hS hA hT (c_X4_step l D cB cI mo mb ma H.size b4 b5 b6 b7 b8 b9 b10 b11 b12 b13 b14 b15 b16 b17 b18 b19 b20 b21 ) (cwV 0 hws (gw_V mw_575 mw_363 mw_364 mw_5 mw_365) rfl rfl rfl hdX4_step ⟨Nat.le_of_ble_eq_true rfl, Nat.le_of_ble_eq_true rfl⟩) [0, 1, 2] [] [0, 1] [0, 1, 2] rfl rfl rfl rfl (by decide) rfl (fun _ => rfl) rfl 0 rfl rfl rfl rfl hl.1 rfl (Nat.le_of_ble_eq_true rfl) dX4_run_27 ⟨Nat.zero_le _, Nat.zero_le _⟩ (fun r42 u9 H locs hw41 hP hD hS => ?_)
            obtain ⟨b23, b24, b25, b26, b27, b28, b29, b30, b31, b32, b33, b34, b35, b36, b37, b38, b39, b40⟩ := u9
            have hP : va_P D vwCl (kX4 cB cI mo mb ma b23 b24 b25 b26 b27 b28 b29 b30 b31 b32 b33 b34 b35 b36 b37 b38 b39 b40) H := hP
            have hD : va_D A (kX4 cB cI mo mb ma b23 b24 b25 b26 b27 b28 b29 b30 b31 b32 b33 b34 b35 b36 b37 b38 b39 b40) := hD
            have hf := hf.trans (kE19 hw41)
            refine lv_iconst (v := 2) hx hb dX4_run_30 (by decide) ?_
            refine lv_icmp_ge (tgt := 40) hx hb dX4_run_31 (by decide) (fun c43 => ?_) (fun c43 => ?_)
            · have hf := hf.trans (kt_le c43)
              refine lv_iload_n hx hb dX4_run_40 rfl (lv_at hl 0 rfl) ?_
              have hf := hF.trans (kI_inr hf)
              rw [← hQ]
              exact W.iret (v := x3) hx hb hr (fun t ht hW => ⟨⟨x3, (b23, b24, b25, b26, b27, b28, b29, b30, b31, b32, b33, b34, b35, b36, b37, b38, b39, b40), rfl, hf.symm, by rw [ht]; exact hP, va_K.moved hW.alike hK, hD⟩, hS.F ht⟩) hS.2.2 dX4_run_41
            · have hf := hf.trans (kf_le c43)
              obtain ⟨x44, ex44⟩ : ∃ y9 : Int32, y9 = x3 + (1 : Int32) := ⟨_, rfl⟩
              have hf := hf.trans (kE1 ex44)
              refine lv_iinc (v := x44) (lv' := [(2, .int x44), (0, .ref mo), (1, .int a1)]) hx hb dX4_run_34 hl (k := 0) rfl (by rw [ex44]; rfl) (by decide) rfl (fun ls hl => ?_)
              refine lv_goto (tgt := 21) hx hb dX4_run_37 (by decide) ?_
              exact ih x44 b23 b24 b25 b26 b27 b28 b29 b30 b31 b32 b33 b34 b35 b36 b37 b38 b39 b40 (kT_stepV ex44 c22 ht9) (hF.trans (kI_inl hf)) H locs ls (lv_sub hl [0, 1, 2] rfl) hP hD hS
      exact hLp (a1.toNatClampNeg + 1) (0 : Int32) w_zf w_nf w_hf w_cf w_sp w_pc w_on w_wt w_ht w_bg w_cn w_al w_cl w_ie w_ww (0 : Int32) w_mm w_bs (kT_init a1.toNatClampNeg) hf H locs ls (lv_sub hl [0, 1, 2] rfl) hP hD hS
    · have hf := hf.trans (kf_le c2)
      refine lv_iconst (v := -1) hx hb dX4_run_17 (by decide) ?_
      rw [← hQ]
      exact W.iret (v := (-1 : Int32)) hx hb hr (fun t ht hW => ⟨⟨(-1 : Int32), (w_zf, w_nf, w_hf, w_cf, w_sp, w_pc, w_on, w_wt, w_ht, w_bg, w_cn, w_al, w_cl, w_ie, w_ww, (0 : Int32), w_mm, w_bs), rfl, hf.symm, by rw [ht]; exact hP, va_K.moved hW.alike hK, hD⟩, hS.F ht⟩) hS.2.2 dX4_run_18
def fX4_poke (w_th : Int32) (w_mm : Nat → Int32) (a1 : Int32) (a2 : Int32) : Bool × Int32 × (Nat → Int32) := (kIf (kLt a1 (0 : Int32)) (false, (0 : Int32), w_mm) (kIf (kLe a1 (65535 : Int32)) (kU1 (fX4_puts w_mm a1 a2) (fun (b3 : Nat → Int32) => (true, (0 : Int32), b3))) (false, (0 : Int32), w_mm)))
def rmX4_poke : Room := { frames := 1, cells := 0, slots := 0, locals := 22 }
def wwX4_poke : List Cond := Cond.code yX4_poke cX4_poke 3 (some .boolean) :: wsL_law
theorem hdX4_poke : yX4_poke.cls = RX4 ∧ yX4_poke.cls ≠ "java/lang/invoke/MethodHandle" ∧ yX4_poke.cls ≠ "java/lang/invoke/VarHandle" ∧ (parseMethodDescriptor yX4_poke.desc).map (fun d => d.parameters.length) = some 2 := by decide +kernel
set_option maxHeartbeats 4000000 in
set_option maxRecDepth 100000 in
theorem c_X4_poke (l : Launch) (D : va_G) (cB : ClassId) (cI : ClassId) (mo mb ma sz : Nat) (w_zf : Bool) (w_nf : Bool) (w_hf : Bool) (w_cf : Bool) (w_sp : Int32) (w_pc : Int32) (w_on : Bool) (w_wt : Bool) (w_ht : Bool) (w_bg : Bool) (w_cn : Int32) (w_al : Int32) (w_cl : Int32) (w_ie : Bool) (w_ww : Bool) (w_th : Int32) (w_mm : Nat → Int32) (w_bs : Nat → Int32) (a1 : Int32) (a2 : Int32)  : Met l yX4_poke wwX4_poke rmX4_poke (va_Pc [.ref mo, .int a1, .int a2] (kp D (kX4 cB cI mo mb ma w_zf w_nf w_hf w_cf w_sp w_pc w_on w_wt w_ht w_bg w_cn w_al w_cl w_ie w_ww w_th w_mm w_bs) [(cB, .byte), (cI, .int)] sz)) (va_Qi (fun (r : Int32) (u9 : Int32 × (Nat → Int32)) => ∃ z9 : Bool, r = bI z9 ∧ (z9, u9) = fX4_poke w_th w_mm a1 a2) (fun u9 t => kq D (kX4 cB cI mo mb ma w_zf w_nf w_hf w_cf w_sp w_pc w_on w_wt w_ht w_bg w_cn w_al w_cl w_ie w_ww (u9.1) (u9.2) w_bs) [(cB, .byte), (cI, .int)] (va_A (kX4 cB cI mo mb ma w_zf w_nf w_hf w_cf w_sp w_pc w_on w_wt w_ht w_bg w_cn w_al w_cl w_ie w_ww w_th w_mm w_bs) sz) t) (va_A (kX4 cB cI mo mb ma w_zf w_nf w_hf w_cf w_sp w_pc w_on w_wt w_ht w_bg w_cn w_al w_cl w_ie w_ww w_th w_mm w_bs) sz)) 0 0 (va_A (kX4 cB cI mo mb ma w_zf w_nf w_hf w_cf w_sp w_pc w_on w_wt w_ht w_bg w_cn w_al w_cl w_ie w_ww w_th w_mm w_bs) sz) := by
  refine Met.ofW (cc := cX4_poke) (maxL := 3) (ret := (some .boolean)) (by decide) rfl ?_
  intro p e s m args below meth c s₁ B hml hv
  obtain ⟨rfl, hsz, hP, hK, hD0, hT⟩ := hv
  have hx := B.exec
  have hb := B.bytes
  have hr := B.returns
  have hts := atoms_spec (ws := wwX4_poke) B.pre
  have hws : ∀ w ∈ wsL_law, w.before _ s = true := fun w h => hts w (List.mem_cons_of_mem _ h)
  have hown : s.vm.findClass RX4 = some m.cls := findClass_of_methodNamed B.named
  have hlocks := B.notSynchronized
  subst hsz
  have hD := hD0.self (sz := s.heap.size)
  generalize hAe : va_A (kX4 cB cI mo mb ma w_zf w_nf w_hf w_cf w_sp w_pc w_on w_wt w_ht w_bg w_cn w_al w_cl w_ie w_ww w_th w_mm w_bs) s.heap.size = A at hD hT ⊢
  have hA : ∀ q : Nat, s.heap.size ≤ q → A q := fun q h => by rw [← hAe]; exact Or.inr h
  have hS : va_S A s.heap s.heap [] := va_S.rf
  have hl := lv_entry ([.ref mo, .int a1, .int a2]) (n := 3) (Nat.le_of_ble_eq_true rfl)
  rw [lg_entry_eq]
  generalize (lg_sl ([.ref mo, .int a1, .int a2]) ++ List.replicate (3 - (lg_sl ([.ref mo, .int a1, .int a2])).length) Slot.unset).toArray = ls at hl ⊢
  have hl : lv_has ls 3 [(0, .ref mo), (1, .int a1), (2, .int a2)] := hl
  generalize hQ : MQ _ _ _ _ _ _ _ = Q
  obtain ⟨H, hHe⟩ : ∃ H : Heap, H = s.heap := ⟨_, rfl⟩
  obtain ⟨locs, hle⟩ : ∃ L : List Loc, L = [] := ⟨_, rfl⟩
  have hP : va_P D vwCl (kX4 cB cI mo mb ma w_zf w_nf w_hf w_cf w_sp w_pc w_on w_wt w_ht w_bg w_cn w_al w_cl w_ie w_ww w_th w_mm w_bs) H := by rw [hHe]; exact hP
  have hS : va_S A s.heap H locs := by rw [hHe, hle]; exact hS
  refine kw_start hHe.symm hle.symm ?_
  have hf : fX4_poke w_th w_mm a1 a2 = fX4_poke w_th w_mm a1 a2 := rfl
  refine lv_aload_n hx hb dX4_poke_0 rfl (lv_at hl 0 rfl) ?_
  refine lv_iconst (v := 0) hx hb dX4_poke_1 (by decide) ?_
  refine va_put (D := D) (ci := 4) (v := .int (0 : Int32)) (ty := .int) (C := RX4) (T := TX4) (N := 18) hx hb hws inlX4 tyX4 tyX4_ok nmX4 hown hK hP hD hS 0 rfl rfl 17 (by decide) (hws _ mw_60) (fun _ h9 => h9) rfl (tyX4_ok 17 (by decide)) rfl rfl (Nat.le_of_ble_eq_true rfl) dX4_poke_2 (fun H locs hP hD hS => ?_)
  have hP : va_P D vwCl (kX4 cB cI mo mb ma w_zf w_nf w_hf w_cf w_sp w_pc w_on w_wt w_ht w_bg w_cn w_al w_cl w_ie w_ww (0 : Int32) w_mm w_bs) H := hP
  have hD : va_D A (kX4 cB cI mo mb ma w_zf w_nf w_hf w_cf w_sp w_pc w_on w_wt w_ht w_bg w_cn w_al w_cl w_ie w_ww (0 : Int32) w_mm w_bs) := hD
  refine lv_iload_n hx hb dX4_poke_5 rfl (lv_at hl 1 rfl) ?_
  refine lv_if_lt (tgt := 15) hx hb dX4_poke_6 (by decide) (fun c1 => ?_) (fun c1 => ?_)
  · have hf := hf.trans (kt_lt c1)
    refine lv_iconst (v := 0) hx hb dX4_poke_15 (by decide) ?_
    rw [← hQ]
    exact W.zret (v := bI false) (ty := .boolean) hx hb hr (bI_nar _) (fun t ht hW => ⟨⟨bI false, ((0 : Int32), w_mm), rfl, ⟨false, rfl, hf.symm⟩, by rw [ht]; exact hP, va_K.moved hW.alike hK, hD⟩, hS.F ht⟩) hS.2.2 dX4_poke_16
  · have hf := hf.trans (kf_lt c1)
    refine lv_iload_n hx hb dX4_poke_9 rfl (lv_at hl 1 rfl) ?_
    refine lv_ldc (v := 65535) hx hb hown (hws _ mw_61) dX4_poke_10 ?_
    refine lv_icmp_le (tgt := 17) hx hb dX4_poke_12 (by decide) (fun c2 => ?_) (fun c2 => ?_)
    · have hf := hf.trans (kt_le c2)
      refine lv_aload_n hx hb dX4_poke_17 rfl (lv_at hl 0 rfl) ?_
      refine lv_iload_n hx hb dX4_poke_18 rfl (lv_at hl 1 rfl) ?_
      refine lv_iload_n hx hb dX4_poke_19 rfl (lv_at hl 2 rfl) ?_
      refine kc_Vv (wr := []) (As := [.int a1, .int a2]) (rest := []) (fun u9 => (kX4 cB cI mo mb ma w_zf w_nf w_hf w_cf w_sp w_pc w_on w_wt w_ht w_bg w_cn w_al w_cl w_ie w_ww (0 : Int32) u9 w_bs)) ⟨hx, hb, hml, hown, hws⟩ hK hP hD hS hA hT (c_X4_puts l D cB cI mo mb ma H.size w_zf w_nf w_hf w_cf w_sp w_pc w_on w_wt w_ht w_bg w_cn w_al w_cl w_ie w_ww (0 : Int32) w_mm w_bs a1 a2) (cwV 2 hws (gw_V mw_62 mw_63 mw_64 mw_5 mw_65) rfl rfl rfl hdX4_puts ⟨Nat.le_of_ble_eq_true rfl, Nat.le_of_ble_eq_true rfl⟩) [0, 1, 2] [] [0, 1] [0, 1, 2] rfl rfl rfl rfl (by decide) rfl (fun _ => rfl) rfl 0 rfl rfl rfl rfl hl.1 rfl (Nat.le_of_ble_eq_true rfl) dX4_poke_20 ⟨Nat.zero_le _, Nat.zero_le _⟩ (fun b3 H locs hw4 hP hD hS => ?_)
      have hP : va_P D vwCl (kX4 cB cI mo mb ma w_zf w_nf w_hf w_cf w_sp w_pc w_on w_wt w_ht w_bg w_cn w_al w_cl w_ie w_ww (0 : Int32) b3 w_bs) H := hP
      have hD : va_D A (kX4 cB cI mo mb ma w_zf w_nf w_hf w_cf w_sp w_pc w_on w_wt w_ht w_bg w_cn w_al w_cl w_ie w_ww (0 : Int32) b3 w_bs) := hD
      have hf := hf.trans (kE1 hw4)
      refine lv_iconst (v := 1) hx hb dX4_poke_23 (by decide) ?_
      rw [← hQ]
      exact W.zret (v := bI true) (ty := .boolean) hx hb hr (bI_nar _) (fun t ht hW => ⟨⟨bI true, ((0 : Int32), b3), rfl, ⟨true, rfl, hf.symm⟩, by rw [ht]; exact hP, va_K.moved hW.alike hK, hD⟩, hS.F ht⟩) hS.2.2 dX4_poke_24
    · have hf := hf.trans (kf_le c2)
      refine lv_iconst (v := 0) hx hb dX4_poke_15 (by decide) ?_
      rw [← hQ]
      exact W.zret (v := bI false) (ty := .boolean) hx hb hr (bI_nar _) (fun t ht hW => ⟨⟨bI false, ((0 : Int32), w_mm), rfl, ⟨false, rfl, hf.symm⟩, by rw [ht]; exact hP, va_K.moved hW.alike hK, hD⟩, hS.F ht⟩) hS.2.2 dX4_poke_16
def fX4_feed_L (a1 : Int32) (a2 : Int32) (a3 : Int32) (a4 : Int32) (a5 : Int32) (q9 : Int32 × (Nat → Int32)) : (Int32 × (Nat → Int32)) ⊕ (Bool × Int32 × (Nat → Int32)) := kU2 q9 (fun (x3 : Int32) (b4 : Nat → Int32) => (kIf (kLe (16 : Int32) x3) (Sum.inr (true, (0 : Int32), b4)) (kU1 (((kIf (kLe (4 : Int32) x3) (kIf (kLe (8 : Int32) x3) (kIf (kLe (12 : Int32) x3) a5 a4) a3) a2) : Int32)) (fun (x9 : Int32) => (kU1 (fX4_puts b4 (a1 + x3) (x9 >>> (((24 : Int32) - ((8 : Int32) * (x3 - x3 / (4 : Int32) * (4 : Int32)))) &&& (31 : Int32)))) (fun (b11 : Nat → Int32) => (kU1 (x3 + (1 : Int32)) (fun (x13 : Int32) => Sum.inl (x13, b11)))))))))
def fX4_feed (w_th : Int32) (w_mm : Nat → Int32) (a1 : Int32) (a2 : Int32) (a3 : Int32) (a4 : Int32) (a5 : Int32) : Bool × Int32 × (Nat → Int32) := (kIf (kLt a1 (0 : Int32)) (false, (0 : Int32), w_mm) (kIf (kLe a1 (65520 : Int32)) (kIt (fX4_feed_L a1 a2 a3 a4 a5) (false, (0 : Int32), w_mm) 17 ((0 : Int32), w_mm)) (false, (0 : Int32), w_mm)))
def rmX4_feed : Room := { frames := 1, cells := 0, slots := 0, locals := 22 }
def wwX4_feed : List Cond := Cond.code yX4_feed cX4_feed 8 (some .boolean) :: wsL_law
theorem hdX4_feed : yX4_feed.cls = RX4 ∧ yX4_feed.cls ≠ "java/lang/invoke/MethodHandle" ∧ yX4_feed.cls ≠ "java/lang/invoke/VarHandle" ∧ (parseMethodDescriptor yX4_feed.desc).map (fun d => d.parameters.length) = some 5 := by decide +kernel
set_option maxHeartbeats 4000000 in
set_option maxRecDepth 100000 in
theorem c_X4_feed (l : Launch) (D : va_G) (cB : ClassId) (cI : ClassId) (mo mb ma sz : Nat) (w_zf : Bool) (w_nf : Bool) (w_hf : Bool) (w_cf : Bool) (w_sp : Int32) (w_pc : Int32) (w_on : Bool) (w_wt : Bool) (w_ht : Bool) (w_bg : Bool) (w_cn : Int32) (w_al : Int32) (w_cl : Int32) (w_ie : Bool) (w_ww : Bool) (w_th : Int32) (w_mm : Nat → Int32) (w_bs : Nat → Int32) (a1 : Int32) (a2 : Int32) (a3 : Int32) (a4 : Int32) (a5 : Int32)  : Met l yX4_feed wwX4_feed rmX4_feed (va_Pc [.ref mo, .int a1, .int a2, .int a3, .int a4, .int a5] (kp D (kX4 cB cI mo mb ma w_zf w_nf w_hf w_cf w_sp w_pc w_on w_wt w_ht w_bg w_cn w_al w_cl w_ie w_ww w_th w_mm w_bs) [(cB, .byte), (cI, .int)] sz)) (va_Qi (fun (r : Int32) (u9 : Int32 × (Nat → Int32)) => ∃ z9 : Bool, r = bI z9 ∧ (z9, u9) = fX4_feed w_th w_mm a1 a2 a3 a4 a5) (fun u9 t => kq D (kX4 cB cI mo mb ma w_zf w_nf w_hf w_cf w_sp w_pc w_on w_wt w_ht w_bg w_cn w_al w_cl w_ie w_ww (u9.1) (u9.2) w_bs) [(cB, .byte), (cI, .int)] (va_A (kX4 cB cI mo mb ma w_zf w_nf w_hf w_cf w_sp w_pc w_on w_wt w_ht w_bg w_cn w_al w_cl w_ie w_ww w_th w_mm w_bs) sz) t) (va_A (kX4 cB cI mo mb ma w_zf w_nf w_hf w_cf w_sp w_pc w_on w_wt w_ht w_bg w_cn w_al w_cl w_ie w_ww w_th w_mm w_bs) sz)) 0 0 (va_A (kX4 cB cI mo mb ma w_zf w_nf w_hf w_cf w_sp w_pc w_on w_wt w_ht w_bg w_cn w_al w_cl w_ie w_ww w_th w_mm w_bs) sz) := by
  refine Met.ofW (cc := cX4_feed) (maxL := 8) (ret := (some .boolean)) (by decide) rfl ?_
  intro p e s m args below meth c s₁ B hml hv
  obtain ⟨rfl, hsz, hP, hK, hD0, hT⟩ := hv
  have hx := B.exec
  have hb := B.bytes
  have hr := B.returns
  have hts := atoms_spec (ws := wwX4_feed) B.pre
  have hws : ∀ w ∈ wsL_law, w.before _ s = true := fun w h => hts w (List.mem_cons_of_mem _ h)
  have hown : s.vm.findClass RX4 = some m.cls := findClass_of_methodNamed B.named
  have hlocks := B.notSynchronized
  subst hsz
  have hD := hD0.self (sz := s.heap.size)
  generalize hAe : va_A (kX4 cB cI mo mb ma w_zf w_nf w_hf w_cf w_sp w_pc w_on w_wt w_ht w_bg w_cn w_al w_cl w_ie w_ww w_th w_mm w_bs) s.heap.size = A at hD hT ⊢
  have hA : ∀ q : Nat, s.heap.size ≤ q → A q := fun q h => by rw [← hAe]; exact Or.inr h
  have hS : va_S A s.heap s.heap [] := va_S.rf
  have hl := lv_entry ([.ref mo, .int a1, .int a2, .int a3, .int a4, .int a5]) (n := 8) (Nat.le_of_ble_eq_true rfl)
  rw [lg_entry_eq]
  generalize (lg_sl ([.ref mo, .int a1, .int a2, .int a3, .int a4, .int a5]) ++ List.replicate (8 - (lg_sl ([.ref mo, .int a1, .int a2, .int a3, .int a4, .int a5])).length) Slot.unset).toArray = ls at hl ⊢
  have hl : lv_has ls 8 [(0, .ref mo), (1, .int a1), (2, .int a2), (3, .int a3), (4, .int a4), (5, .int a5)] := hl
  generalize hQ : MQ _ _ _ _ _ _ _ = Q
  obtain ⟨H, hHe⟩ : ∃ H : Heap, H = s.heap := ⟨_, rfl⟩
  obtain ⟨locs, hle⟩ : ∃ L : List Loc, L = [] := ⟨_, rfl⟩
  have hP : va_P D vwCl (kX4 cB cI mo mb ma w_zf w_nf w_hf w_cf w_sp w_pc w_on w_wt w_ht w_bg w_cn w_al w_cl w_ie w_ww w_th w_mm w_bs) H := by rw [hHe]; exact hP
  have hS : va_S A s.heap H locs := by rw [hHe, hle]; exact hS
  refine kw_start hHe.symm hle.symm ?_
  have hf : fX4_feed w_th w_mm a1 a2 a3 a4 a5 = fX4_feed w_th w_mm a1 a2 a3 a4 a5 := rfl
  refine lv_aload_n hx hb dX4_feed_0 rfl (lv_at hl 0 rfl) ?_
  refine lv_iconst (v := 0) hx hb dX4_feed_1 (by decide) ?_
  refine va_put (D := D) (ci := 4) (v := .int (0 : Int32)) (ty := .int) (C := RX4) (T := TX4) (N := 18) hx hb hws inlX4 tyX4 tyX4_ok nmX4 hown hK hP hD hS 0 rfl rfl 17 (by decide) (hws _ mw_60) (fun _ h9 => h9) rfl (tyX4_ok 17 (by decide)) rfl rfl (Nat.le_of_ble_eq_true rfl) dX4_feed_2 (fun H locs hP hD hS => ?_)
  have hP : va_P D vwCl (kX4 cB cI mo mb ma w_zf w_nf w_hf w_cf w_sp w_pc w_on w_wt w_ht w_bg w_cn w_al w_cl w_ie w_ww (0 : Int32) w_mm w_bs) H := hP
  have hD : va_D A (kX4 cB cI mo mb ma w_zf w_nf w_hf w_cf w_sp w_pc w_on w_wt w_ht w_bg w_cn w_al w_cl w_ie w_ww (0 : Int32) w_mm w_bs) := hD
  refine lv_iload_n hx hb dX4_feed_5 rfl (lv_at hl 1 rfl) ?_
  refine lv_if_lt (tgt := 15) hx hb dX4_feed_6 (by decide) (fun c1 => ?_) (fun c1 => ?_)
  · have hf := hf.trans (kt_lt c1)
    refine lv_iconst (v := 0) hx hb dX4_feed_15 (by decide) ?_
    rw [← hQ]
    exact W.zret (v := bI false) (ty := .boolean) hx hb hr (bI_nar _) (fun t ht hW => ⟨⟨bI false, ((0 : Int32), w_mm), rfl, ⟨false, rfl, hf.symm⟩, by rw [ht]; exact hP, va_K.moved hW.alike hK, hD⟩, hS.F ht⟩) hS.2.2 dX4_feed_16
  · have hf := hf.trans (kf_lt c1)
    refine lv_iload_n hx hb dX4_feed_9 rfl (lv_at hl 1 rfl) ?_
    refine lv_ldc (v := 65520) hx hb hown (hws _ mw_80) dX4_feed_10 ?_
    refine lv_icmp_le (tgt := 17) hx hb dX4_feed_12 (by decide) (fun c2 => ?_) (fun c2 => ?_)
    · have hf := hf.trans (kt_le c2)
      refine lv_iconst (v := 0) hx hb dX4_feed_17 (by decide) ?_
      refine lv_istore (lv' := [(6, .int (0 : Int32)), (0, .ref mo), (1, .int a1), (2, .int a2), (3, .int a3), (4, .int a4), (5, .int a5)]) hx hb dX4_feed_18 hl (by decide) rfl (fun ls hl => ?_)
      have hLp : ∀ (n9 : Nat) (x3 : Int32) (b4 : Nat → Int32), kT 16 x3 n9 → fX4_feed w_th w_mm a1 a2 a3 a4 a5 = kIt (fX4_feed_L a1 a2 a3 a4 a5) (false, (0 : Int32), w_mm) n9 (x3, b4) → ∀ (H : Heap) (locs : List Loc) (ls : Array Slot), lv_has ls 8 [(6, .int x3), (0, .ref mo), (1, .int a1), (2, .int a2), (3, .int a3), (4, .int a4), (5, .int a5)] → va_P D vwCl (kX4 cB cI mo mb ma w_zf w_nf w_hf w_cf w_sp w_pc w_on w_wt w_ht w_bg w_cn w_al w_cl w_ie w_ww (0 : Int32) b4 w_bs) H → va_D A (kX4 cB cI mo mb ma w_zf w_nf w_hf w_cf w_sp w_pc w_on w_wt w_ht w_bg w_cn w_al w_cl w_ie w_ww (0 : Int32) b4 w_bs) → va_S A s.heap H locs → W p l e (headSpec wwX4_feed rmX4_feed).room s m ([.ref mo, .int a1, .int a2, .int a3, .int a4, .int a5] : List Value).toArray below meth c H locs 0 0 Q (F0 m 20 ls []) := by
        intro n9
        induction n9 with
        | zero => intro x3 b4 ht9 hF H locs ls hl hP hD hS; exact absurd ht9 kT_0
        | succ n9 ih =>
          intro x3 b4 ht9 hF H locs ls hl hP hD hS
          have hf : fX4_feed_L a1 a2 a3 a4 a5 (x3, b4) = _ := kE2 rfl
          refine lv_iload hx hb dX4_feed_20 (lv_at hl 0 rfl) ?_
          refine lv_bipush (v := 16) hx hb dX4_feed_22 (by decide) ?_
          refine lv_icmp_ge (tgt := 91) hx hb dX4_feed_24 (by decide) (fun c5 => ?_) (fun c5 => ?_)
          · have hf := hf.trans (kt_le c5)
            refine lv_iconst (v := 1) hx hb dX4_feed_91 (by decide) ?_
            have hf := hF.trans (kI_inr hf)
            rw [← hQ]
            exact W.zret (v := bI true) (ty := .boolean) hx hb hr (bI_nar _) (fun t ht hW => ⟨⟨bI true, ((0 : Int32), b4), rfl, ⟨true, rfl, hf.symm⟩, by rw [ht]; exact hP, va_K.moved hW.alike hK, hD⟩, hS.F ht⟩) hS.2.2 dX4_feed_92
          · have hf := hf.trans (kf_le c5)
            refine lv_iload hx hb dX4_feed_27 (lv_at hl 0 rfl) ?_
            refine lv_iconst (v := 4) hx hb dX4_feed_29 (by decide) ?_
            obtain ⟨TJ10, hTJ10⟩ : ∃ T9 : Int32, T9 = (kIf (kLe (4 : Int32) x3) (kIf (kLe (8 : Int32) x3) (kIf (kLe (12 : Int32) x3) a5 a4) a3) a2) := ⟨_, rfl⟩
            have J10 : ∀ (x9 : Int32), x9 = TJ10 → ∀ (H : Heap) (locs : List Loc) (ls : Array Slot), lv_has ls 8 [(6, .int x3), (0, .ref mo), (1, .int a1), (2, .int a2), (3, .int a3), (4, .int a4), (5, .int a5)] → va_P D vwCl (kX4 cB cI mo mb ma w_zf w_nf w_hf w_cf w_sp w_pc w_on w_wt w_ht w_bg w_cn w_al w_cl w_ie w_ww (0 : Int32) b4 w_bs) H → va_D A (kX4 cB cI mo mb ma w_zf w_nf w_hf w_cf w_sp w_pc w_on w_wt w_ht w_bg w_cn w_al w_cl w_ie w_ww (0 : Int32) b4 w_bs) → va_S A s.heap H locs → W p l e (headSpec wwX4_feed rmX4_feed).room s m ([.ref mo, .int a1, .int a2, .int a3, .int a4, .int a5] : List Value).toArray below meth c H locs 0 0 Q (F0 m 62 ls [.int x9]) := by
              intro x9 eJ10 H locs ls hl hP hD hS
              have hf := hf.trans (kE1 (eJ10.trans hTJ10))
              refine lv_istore (lv' := [(7, .int x9), (6, .int x3), (0, .ref mo), (1, .int a1), (2, .int a2), (3, .int a3), (4, .int a4), (5, .int a5)]) hx hb dX4_feed_62 hl (by decide) rfl (fun ls hl => ?_)
              refine lv_aload_n hx hb dX4_feed_64 rfl (lv_at hl 2 rfl) ?_
              refine lv_iload_n hx hb dX4_feed_65 rfl (lv_at hl 3 rfl) ?_
              refine lv_iload hx hb dX4_feed_66 (lv_at hl 1 rfl) ?_
              refine lv_iadd hx hb dX4_feed_68 ?_
              refine lv_iload hx hb dX4_feed_69 (lv_at hl 0 rfl) ?_
              refine lv_bipush (v := 24) hx hb dX4_feed_71 (by decide) ?_
              refine lv_bipush (v := 8) hx hb dX4_feed_73 (by decide) ?_
              refine lv_iload hx hb dX4_feed_75 (lv_at hl 1 rfl) ?_
              refine lv_iconst (v := 4) hx hb dX4_feed_77 (by decide) ?_
              refine lv_irem hx hb dX4_feed_78 (by decide) ?_
              refine lv_imul hx hb dX4_feed_79 ?_
              refine lv_isub hx hb dX4_feed_80 ?_
              refine lv_ishr hx hb dX4_feed_81 ?_
              refine kc_Vv (wr := []) (As := [.int (a1 + x3), .int (x9 >>> (((24 : Int32) - ((8 : Int32) * (x3 - x3 / (4 : Int32) * (4 : Int32)))) &&& (31 : Int32)))]) (rest := []) (fun u9 => (kX4 cB cI mo mb ma w_zf w_nf w_hf w_cf w_sp w_pc w_on w_wt w_ht w_bg w_cn w_al w_cl w_ie w_ww (0 : Int32) u9 w_bs)) ⟨hx, hb, hml, hown, hws⟩ hK hP hD hS hA hT (c_X4_puts l D cB cI mo mb ma H.size w_zf w_nf w_hf w_cf w_sp w_pc w_on w_wt w_ht w_bg w_cn w_al w_cl w_ie w_ww (0 : Int32) b4 w_bs (a1 + x3) (x9 >>> (((24 : Int32) - ((8 : Int32) * (x3 - x3 / (4 : Int32) * (4 : Int32)))) &&& (31 : Int32)))) (cwV 2 hws (gw_V mw_62 mw_63 mw_64 mw_5 mw_65) rfl rfl rfl hdX4_puts ⟨Nat.le_of_ble_eq_true rfl, Nat.le_of_ble_eq_true rfl⟩) [0, 1, 2] [] [0, 1] [0, 1, 2] rfl rfl rfl rfl (by decide) rfl (fun _ => rfl) rfl 0 rfl rfl rfl rfl hl.1 rfl (Nat.le_of_ble_eq_true rfl) dX4_feed_82 ⟨Nat.zero_le _, Nat.zero_le _⟩ (fun b11 H locs hw12 hP hD hS => ?_)
              have hP : va_P D vwCl (kX4 cB cI mo mb ma w_zf w_nf w_hf w_cf w_sp w_pc w_on w_wt w_ht w_bg w_cn w_al w_cl w_ie w_ww (0 : Int32) b11 w_bs) H := hP
              have hD : va_D A (kX4 cB cI mo mb ma w_zf w_nf w_hf w_cf w_sp w_pc w_on w_wt w_ht w_bg w_cn w_al w_cl w_ie w_ww (0 : Int32) b11 w_bs) := hD
              have hf := hf.trans (kE1 hw12)
              obtain ⟨x13, ex13⟩ : ∃ y9 : Int32, y9 = x3 + (1 : Int32) := ⟨_, rfl⟩
              have hf := hf.trans (kE1 ex13)
              refine lv_iinc (v := x13) (lv' := [(6, .int x13), (7, .int x9), (0, .ref mo), (1, .int a1), (2, .int a2), (3, .int a3), (4, .int a4), (5, .int a5)]) hx hb dX4_feed_85 hl (k := 1) rfl (by rw [ex13]; rfl) (by decide) rfl (fun ls hl => ?_)
              refine lv_goto (tgt := 20) hx hb dX4_feed_88 (by decide) ?_
              exact ih x13 b11 (kT_step ex13 (by decide) rfl c5 ht9) (hF.trans (kI_inl hf)) H locs ls (lv_sub hl [0, 2, 3, 4, 5, 6, 7] rfl) hP hD hS
            have hf := hTJ10
            refine lv_icmp_ge (tgt := 37) hx hb dX4_feed_30 (by decide) (fun c6 => ?_) (fun c6 => ?_)
            · have hf := hf.trans (kt_le c6)
              refine lv_iload hx hb dX4_feed_37 (lv_at hl 0 rfl) ?_
              refine lv_bipush (v := 8) hx hb dX4_feed_39 (by decide) ?_
              refine lv_icmp_ge (tgt := 48) hx hb dX4_feed_41 (by decide) (fun c7 => ?_) (fun c7 => ?_)
              · have hf := hf.trans (kt_le c7)
                refine lv_iload hx hb dX4_feed_48 (lv_at hl 0 rfl) ?_
                refine lv_bipush (v := 12) hx hb dX4_feed_50 (by decide) ?_
                refine lv_icmp_ge (tgt := 60) hx hb dX4_feed_52 (by decide) (fun c8 => ?_) (fun c8 => ?_)
                · have hf := hf.trans (kt_le c8)
                  refine lv_iload hx hb dX4_feed_60 (lv_at hl 6 rfl) ?_
                  exact J10 a5 hf.symm H locs ls (lv_sub hl [0, 1, 2, 3, 4, 5, 6] rfl) hP hD hS
                · have hf := hf.trans (kf_le c8)
                  refine lv_iload hx hb dX4_feed_55 (lv_at hl 5 rfl) ?_
                  refine lv_goto (tgt := 62) hx hb dX4_feed_57 (by decide) ?_
                  exact J10 a4 hf.symm H locs ls (lv_sub hl [0, 1, 2, 3, 4, 5, 6] rfl) hP hD hS
              · have hf := hf.trans (kf_le c7)
                refine lv_iload_n hx hb dX4_feed_44 rfl (lv_at hl 4 rfl) ?_
                refine lv_goto (tgt := 62) hx hb dX4_feed_45 (by decide) ?_
                exact J10 a3 hf.symm H locs ls (lv_sub hl [0, 1, 2, 3, 4, 5, 6] rfl) hP hD hS
            · have hf := hf.trans (kf_le c6)
              refine lv_iload_n hx hb dX4_feed_33 rfl (lv_at hl 3 rfl) ?_
              refine lv_goto (tgt := 62) hx hb dX4_feed_34 (by decide) ?_
              exact J10 a2 hf.symm H locs ls (lv_sub hl [0, 1, 2, 3, 4, 5, 6] rfl) hP hD hS
      exact hLp 17 (0 : Int32) w_mm (kT_init 16) hf H locs ls (lv_sub hl [0, 1, 2, 3, 4, 5, 6] rfl) hP hD hS
    · have hf := hf.trans (kf_le c2)
      refine lv_iconst (v := 0) hx hb dX4_feed_15 (by decide) ?_
      rw [← hQ]
      exact W.zret (v := bI false) (ty := .boolean) hx hb hr (bI_nar _) (fun t ht hW => ⟨⟨bI false, ((0 : Int32), w_mm), rfl, ⟨false, rfl, hf.symm⟩, by rw [ht]; exact hP, va_K.moved hW.alike hK, hD⟩, hS.F ht⟩) hS.2.2 dX4_feed_16
def fX4_peek (w_th : Int32) (w_mm : Nat → Int32) (a1 : Int32) : Int32 × Int32 := (kIf (kLt a1 (0 : Int32)) ((-1 : Int32), (0 : Int32)) (kIf (kLe a1 (65535 : Int32)) (kU1 (fX4_at w_mm a1) (fun (r4 : Int32) => (r4, (0 : Int32)))) ((-1 : Int32), (0 : Int32))))
def rmX4_peek : Room := { frames := 1, cells := 0, slots := 0, locals := 21 }
def wwX4_peek : List Cond := Cond.code yX4_peek cX4_peek 2 (some .int) :: wsL_law
theorem hdX4_peek : yX4_peek.cls = RX4 ∧ yX4_peek.cls ≠ "java/lang/invoke/MethodHandle" ∧ yX4_peek.cls ≠ "java/lang/invoke/VarHandle" ∧ (parseMethodDescriptor yX4_peek.desc).map (fun d => d.parameters.length) = some 1 := by decide +kernel
set_option maxHeartbeats 4000000 in
set_option maxRecDepth 100000 in
theorem c_X4_peek (l : Launch) (D : va_G) (cB : ClassId) (cI : ClassId) (mo mb ma sz : Nat) (w_zf : Bool) (w_nf : Bool) (w_hf : Bool) (w_cf : Bool) (w_sp : Int32) (w_pc : Int32) (w_on : Bool) (w_wt : Bool) (w_ht : Bool) (w_bg : Bool) (w_cn : Int32) (w_al : Int32) (w_cl : Int32) (w_ie : Bool) (w_ww : Bool) (w_th : Int32) (w_mm : Nat → Int32) (w_bs : Nat → Int32) (a1 : Int32)  : Met l yX4_peek wwX4_peek rmX4_peek (va_Pc [.ref mo, .int a1] (kp D (kX4 cB cI mo mb ma w_zf w_nf w_hf w_cf w_sp w_pc w_on w_wt w_ht w_bg w_cn w_al w_cl w_ie w_ww w_th w_mm w_bs) [(cB, .byte), (cI, .int)] sz)) (va_Qi (fun (r : Int32) (u9 : Int32) => (r, u9) = fX4_peek w_th w_mm a1) (fun u9 t => kq D (kX4 cB cI mo mb ma w_zf w_nf w_hf w_cf w_sp w_pc w_on w_wt w_ht w_bg w_cn w_al w_cl w_ie w_ww u9 w_mm w_bs) [(cB, .byte), (cI, .int)] (va_A (kX4 cB cI mo mb ma w_zf w_nf w_hf w_cf w_sp w_pc w_on w_wt w_ht w_bg w_cn w_al w_cl w_ie w_ww w_th w_mm w_bs) sz) t) (va_A (kX4 cB cI mo mb ma w_zf w_nf w_hf w_cf w_sp w_pc w_on w_wt w_ht w_bg w_cn w_al w_cl w_ie w_ww w_th w_mm w_bs) sz)) 0 0 (va_A (kX4 cB cI mo mb ma w_zf w_nf w_hf w_cf w_sp w_pc w_on w_wt w_ht w_bg w_cn w_al w_cl w_ie w_ww w_th w_mm w_bs) sz) := by
  refine Met.ofW (cc := cX4_peek) (maxL := 2) (ret := (some .int)) (by decide) rfl ?_
  intro p e s m args below meth c s₁ B hml hv
  obtain ⟨rfl, hsz, hP, hK, hD0, hT⟩ := hv
  have hx := B.exec
  have hb := B.bytes
  have hr := B.returns
  have hts := atoms_spec (ws := wwX4_peek) B.pre
  have hws : ∀ w ∈ wsL_law, w.before _ s = true := fun w h => hts w (List.mem_cons_of_mem _ h)
  have hown : s.vm.findClass RX4 = some m.cls := findClass_of_methodNamed B.named
  have hlocks := B.notSynchronized
  subst hsz
  have hD := hD0.self (sz := s.heap.size)
  generalize hAe : va_A (kX4 cB cI mo mb ma w_zf w_nf w_hf w_cf w_sp w_pc w_on w_wt w_ht w_bg w_cn w_al w_cl w_ie w_ww w_th w_mm w_bs) s.heap.size = A at hD hT ⊢
  have hA : ∀ q : Nat, s.heap.size ≤ q → A q := fun q h => by rw [← hAe]; exact Or.inr h
  have hS : va_S A s.heap s.heap [] := va_S.rf
  have hl := lv_entry ([.ref mo, .int a1]) (n := 2) (Nat.le_of_ble_eq_true rfl)
  rw [lg_entry_eq]
  generalize (lg_sl ([.ref mo, .int a1]) ++ List.replicate (2 - (lg_sl ([.ref mo, .int a1])).length) Slot.unset).toArray = ls at hl ⊢
  have hl : lv_has ls 2 [(0, .ref mo), (1, .int a1)] := hl
  generalize hQ : MQ _ _ _ _ _ _ _ = Q
  obtain ⟨H, hHe⟩ : ∃ H : Heap, H = s.heap := ⟨_, rfl⟩
  obtain ⟨locs, hle⟩ : ∃ L : List Loc, L = [] := ⟨_, rfl⟩
  have hP : va_P D vwCl (kX4 cB cI mo mb ma w_zf w_nf w_hf w_cf w_sp w_pc w_on w_wt w_ht w_bg w_cn w_al w_cl w_ie w_ww w_th w_mm w_bs) H := by rw [hHe]; exact hP
  have hS : va_S A s.heap H locs := by rw [hHe, hle]; exact hS
  refine kw_start hHe.symm hle.symm ?_
  have hf : fX4_peek w_th w_mm a1 = fX4_peek w_th w_mm a1 := rfl
  refine lv_aload_n hx hb dX4_peek_0 rfl (lv_at hl 0 rfl) ?_
  refine lv_iconst (v := 0) hx hb dX4_peek_1 (by decide) ?_
  refine va_put (D := D) (ci := 4) (v := .int (0 : Int32)) (ty := .int) (C := RX4) (T := TX4) (N := 18) hx hb hws inlX4 tyX4 tyX4_ok nmX4 hown hK hP hD hS 0 rfl rfl 17 (by decide) (hws _ mw_60) (fun _ h9 => h9) rfl (tyX4_ok 17 (by decide)) rfl rfl (Nat.le_of_ble_eq_true rfl) dX4_peek_2 (fun H locs hP hD hS => ?_)
  have hP : va_P D vwCl (kX4 cB cI mo mb ma w_zf w_nf w_hf w_cf w_sp w_pc w_on w_wt w_ht w_bg w_cn w_al w_cl w_ie w_ww (0 : Int32) w_mm w_bs) H := hP
  have hD : va_D A (kX4 cB cI mo mb ma w_zf w_nf w_hf w_cf w_sp w_pc w_on w_wt w_ht w_bg w_cn w_al w_cl w_ie w_ww (0 : Int32) w_mm w_bs) := hD
  refine lv_iload_n hx hb dX4_peek_5 rfl (lv_at hl 1 rfl) ?_
  refine lv_if_lt (tgt := 15) hx hb dX4_peek_6 (by decide) (fun c1 => ?_) (fun c1 => ?_)
  · have hf := hf.trans (kt_lt c1)
    refine lv_iconst (v := -1) hx hb dX4_peek_15 (by decide) ?_
    refine lv_goto (tgt := 24) hx hb dX4_peek_16 (by decide) ?_
    rw [← hQ]
    exact W.iret (v := (-1 : Int32)) hx hb hr (fun t ht hW => ⟨⟨(-1 : Int32), (0 : Int32), rfl, hf.symm, by rw [ht]; exact hP, va_K.moved hW.alike hK, hD⟩, hS.F ht⟩) hS.2.2 dX4_peek_24
  · have hf := hf.trans (kf_lt c1)
    refine lv_iload_n hx hb dX4_peek_9 rfl (lv_at hl 1 rfl) ?_
    refine lv_ldc (v := 65535) hx hb hown (hws _ mw_61) dX4_peek_10 ?_
    refine lv_icmp_le (tgt := 19) hx hb dX4_peek_12 (by decide) (fun c2 => ?_) (fun c2 => ?_)
    · have hf := hf.trans (kt_le c2)
      refine lv_aload_n hx hb dX4_peek_19 rfl (lv_at hl 0 rfl) ?_
      refine lv_iload_n hx hb dX4_peek_20 rfl (lv_at hl 1 rfl) ?_
      refine kc_Vi (wr := []) (As := [.int a1]) (rest := []) (fun _ => (kX4 cB cI mo mb ma w_zf w_nf w_hf w_cf w_sp w_pc w_on w_wt w_ht w_bg w_cn w_al w_cl w_ie w_ww (0 : Int32) w_mm w_bs)) ⟨hx, hb, hml, hown, hws⟩ hK hP hD hS hA hT (c_X4_at l D cB cI mo mb ma H.size w_zf w_nf w_hf w_cf w_sp w_pc w_on w_wt w_ht w_bg w_cn w_al w_cl w_ie w_ww (0 : Int32) w_mm w_bs a1) (cwV 1 hws (gw_V mw_93 mw_94 mw_95 mw_5 mw_96) rfl rfl rfl hdX4_at ⟨Nat.le_of_ble_eq_true rfl, Nat.le_of_ble_eq_true rfl⟩) [0, 1, 2] [] [0, 1] [0, 1, 2] rfl rfl rfl rfl (by decide) rfl (fun _ => rfl) rfl 0 rfl rfl rfl rfl hl.1 rfl (Nat.le_of_ble_eq_true rfl) dX4_peek_21 ⟨Nat.zero_le _, Nat.zero_le _⟩ (fun r4 _ H locs hw3 hP hD hS => ?_)
      have hP : va_P D vwCl (kX4 cB cI mo mb ma w_zf w_nf w_hf w_cf w_sp w_pc w_on w_wt w_ht w_bg w_cn w_al w_cl w_ie w_ww (0 : Int32) w_mm w_bs) H := hP
      have hD : va_D A (kX4 cB cI mo mb ma w_zf w_nf w_hf w_cf w_sp w_pc w_on w_wt w_ht w_bg w_cn w_al w_cl w_ie w_ww (0 : Int32) w_mm w_bs) := hD
      have hf := hf.trans (kE1 hw3)
      rw [← hQ]
      exact W.iret (v := r4) hx hb hr (fun t ht hW => ⟨⟨r4, (0 : Int32), rfl, hf.symm, by rw [ht]; exact hP, va_K.moved hW.alike hK, hD⟩, hS.F ht⟩) hS.2.2 dX4_peek_24
    · have hf := hf.trans (kf_le c2)
      refine lv_iconst (v := -1) hx hb dX4_peek_15 (by decide) ?_
      refine lv_goto (tgt := 24) hx hb dX4_peek_16 (by decide) ?_
      rw [← hQ]
      exact W.iret (v := (-1 : Int32)) hx hb hr (fun t ht hW => ⟨⟨(-1 : Int32), (0 : Int32), rfl, hf.symm, by rw [ht]; exact hP, va_K.moved hW.alike hK, hD⟩, hS.F ht⟩) hS.2.2 dX4_peek_24
def fX4_request (w_th : Int32) (w_mm : Nat → Int32) (a1 : Int32) : Bool × Int32 × (Nat → Int32) := (kIf (kLt a1 (0 : Int32)) (false, (0 : Int32), w_mm) (kIf (kLe a1 (4 : Int32)) (kU1 (fX4_at w_mm (65295 : Int32)) (fun (r4 : Int32) => (kU1 (fX4_puts w_mm (65295 : Int32) (r4 ||| ((1 : Int32) <<< (a1 &&& (31 : Int32))))) (fun (b5 : Nat → Int32) => (true, (0 : Int32), b5))))) (false, (0 : Int32), w_mm)))
def rmX4_request : Room := { frames := 1, cells := 0, slots := 0, locals := 22 }
def wwX4_request : List Cond := Cond.code yX4_request cX4_request 2 (some .boolean) :: wsL_law
theorem hdX4_request : yX4_request.cls = RX4 ∧ yX4_request.cls ≠ "java/lang/invoke/MethodHandle" ∧ yX4_request.cls ≠ "java/lang/invoke/VarHandle" ∧ (parseMethodDescriptor yX4_request.desc).map (fun d => d.parameters.length) = some 1 := by decide +kernel
set_option maxHeartbeats 4000000 in
set_option maxRecDepth 100000 in
theorem c_X4_request (l : Launch) (D : va_G) (cB : ClassId) (cI : ClassId) (mo mb ma sz : Nat) (w_zf : Bool) (w_nf : Bool) (w_hf : Bool) (w_cf : Bool) (w_sp : Int32) (w_pc : Int32) (w_on : Bool) (w_wt : Bool) (w_ht : Bool) (w_bg : Bool) (w_cn : Int32) (w_al : Int32) (w_cl : Int32) (w_ie : Bool) (w_ww : Bool) (w_th : Int32) (w_mm : Nat → Int32) (w_bs : Nat → Int32) (a1 : Int32)  : Met l yX4_request wwX4_request rmX4_request (va_Pc [.ref mo, .int a1] (kp D (kX4 cB cI mo mb ma w_zf w_nf w_hf w_cf w_sp w_pc w_on w_wt w_ht w_bg w_cn w_al w_cl w_ie w_ww w_th w_mm w_bs) [(cB, .byte), (cI, .int)] sz)) (va_Qi (fun (r : Int32) (u9 : Int32 × (Nat → Int32)) => ∃ z9 : Bool, r = bI z9 ∧ (z9, u9) = fX4_request w_th w_mm a1) (fun u9 t => kq D (kX4 cB cI mo mb ma w_zf w_nf w_hf w_cf w_sp w_pc w_on w_wt w_ht w_bg w_cn w_al w_cl w_ie w_ww (u9.1) (u9.2) w_bs) [(cB, .byte), (cI, .int)] (va_A (kX4 cB cI mo mb ma w_zf w_nf w_hf w_cf w_sp w_pc w_on w_wt w_ht w_bg w_cn w_al w_cl w_ie w_ww w_th w_mm w_bs) sz) t) (va_A (kX4 cB cI mo mb ma w_zf w_nf w_hf w_cf w_sp w_pc w_on w_wt w_ht w_bg w_cn w_al w_cl w_ie w_ww w_th w_mm w_bs) sz)) 0 0 (va_A (kX4 cB cI mo mb ma w_zf w_nf w_hf w_cf w_sp w_pc w_on w_wt w_ht w_bg w_cn w_al w_cl w_ie w_ww w_th w_mm w_bs) sz) := by
  refine Met.ofW (cc := cX4_request) (maxL := 2) (ret := (some .boolean)) (by decide) rfl ?_
  intro p e s m args below meth c s₁ B hml hv
  obtain ⟨rfl, hsz, hP, hK, hD0, hT⟩ := hv
  have hx := B.exec
  have hb := B.bytes
  have hr := B.returns
  have hts := atoms_spec (ws := wwX4_request) B.pre
  have hws : ∀ w ∈ wsL_law, w.before _ s = true := fun w h => hts w (List.mem_cons_of_mem _ h)
  have hown : s.vm.findClass RX4 = some m.cls := findClass_of_methodNamed B.named
  have hlocks := B.notSynchronized
  subst hsz
  have hD := hD0.self (sz := s.heap.size)
  generalize hAe : va_A (kX4 cB cI mo mb ma w_zf w_nf w_hf w_cf w_sp w_pc w_on w_wt w_ht w_bg w_cn w_al w_cl w_ie w_ww w_th w_mm w_bs) s.heap.size = A at hD hT ⊢
  have hA : ∀ q : Nat, s.heap.size ≤ q → A q := fun q h => by rw [← hAe]; exact Or.inr h
  have hS : va_S A s.heap s.heap [] := va_S.rf
  have hl := lv_entry ([.ref mo, .int a1]) (n := 2) (Nat.le_of_ble_eq_true rfl)
  rw [lg_entry_eq]
  generalize (lg_sl ([.ref mo, .int a1]) ++ List.replicate (2 - (lg_sl ([.ref mo, .int a1])).length) Slot.unset).toArray = ls at hl ⊢
  have hl : lv_has ls 2 [(0, .ref mo), (1, .int a1)] := hl
  generalize hQ : MQ _ _ _ _ _ _ _ = Q
  obtain ⟨H, hHe⟩ : ∃ H : Heap, H = s.heap := ⟨_, rfl⟩
  obtain ⟨locs, hle⟩ : ∃ L : List Loc, L = [] := ⟨_, rfl⟩
  have hP : va_P D vwCl (kX4 cB cI mo mb ma w_zf w_nf w_hf w_cf w_sp w_pc w_on w_wt w_ht w_bg w_cn w_al w_cl w_ie w_ww w_th w_mm w_bs) H := by rw [hHe]; exact hP
  have hS : va_S A s.heap H locs := by rw [hHe, hle]; exact hS
  refine kw_start hHe.symm hle.symm ?_
  have hf : fX4_request w_th w_mm a1 = fX4_request w_th w_mm a1 := rfl
  refine lv_aload_n hx hb dX4_request_0 rfl (lv_at hl 0 rfl) ?_
  refine lv_iconst (v := 0) hx hb dX4_request_1 (by decide) ?_
  refine va_put (D := D) (ci := 4) (v := .int (0 : Int32)) (ty := .int) (C := RX4) (T := TX4) (N := 18) hx hb hws inlX4 tyX4 tyX4_ok nmX4 hown hK hP hD hS 0 rfl rfl 17 (by decide) (hws _ mw_60) (fun _ h9 => h9) rfl (tyX4_ok 17 (by decide)) rfl rfl (Nat.le_of_ble_eq_true rfl) dX4_request_2 (fun H locs hP hD hS => ?_)
  have hP : va_P D vwCl (kX4 cB cI mo mb ma w_zf w_nf w_hf w_cf w_sp w_pc w_on w_wt w_ht w_bg w_cn w_al w_cl w_ie w_ww (0 : Int32) w_mm w_bs) H := hP
  have hD : va_D A (kX4 cB cI mo mb ma w_zf w_nf w_hf w_cf w_sp w_pc w_on w_wt w_ht w_bg w_cn w_al w_cl w_ie w_ww (0 : Int32) w_mm w_bs) := hD
  refine lv_iload_n hx hb dX4_request_5 rfl (lv_at hl 1 rfl) ?_
  refine lv_if_lt (tgt := 14) hx hb dX4_request_6 (by decide) (fun c1 => ?_) (fun c1 => ?_)
  · have hf := hf.trans (kt_lt c1)
    refine lv_iconst (v := 0) hx hb dX4_request_14 (by decide) ?_
    rw [← hQ]
    exact W.zret (v := bI false) (ty := .boolean) hx hb hr (bI_nar _) (fun t ht hW => ⟨⟨bI false, ((0 : Int32), w_mm), rfl, ⟨false, rfl, hf.symm⟩, by rw [ht]; exact hP, va_K.moved hW.alike hK, hD⟩, hS.F ht⟩) hS.2.2 dX4_request_15
  · have hf := hf.trans (kf_lt c1)
    refine lv_iload_n hx hb dX4_request_9 rfl (lv_at hl 1 rfl) ?_
    refine lv_iconst (v := 4) hx hb dX4_request_10 (by decide) ?_
    refine lv_icmp_le (tgt := 16) hx hb dX4_request_11 (by decide) (fun c2 => ?_) (fun c2 => ?_)
    · have hf := hf.trans (kt_le c2)
      refine lv_aload_n hx hb dX4_request_16 rfl (lv_at hl 0 rfl) ?_
      refine lv_ldc (v := 65295) hx hb hown (hws _ mw_366) dX4_request_17 ?_
      refine lv_aload_n hx hb dX4_request_19 rfl (lv_at hl 0 rfl) ?_
      refine lv_ldc (v := 65295) hx hb hown (hws _ mw_366) dX4_request_20 ?_
      refine kc_Vi (wr := []) (As := [.int (65295 : Int32)]) (rest := [.int (65295 : Int32), .ref mo]) (fun _ => (kX4 cB cI mo mb ma w_zf w_nf w_hf w_cf w_sp w_pc w_on w_wt w_ht w_bg w_cn w_al w_cl w_ie w_ww (0 : Int32) w_mm w_bs)) ⟨hx, hb, hml, hown, hws⟩ hK hP hD hS hA hT (c_X4_at l D cB cI mo mb ma H.size w_zf w_nf w_hf w_cf w_sp w_pc w_on w_wt w_ht w_bg w_cn w_al w_cl w_ie w_ww (0 : Int32) w_mm w_bs (65295 : Int32)) (cwV 1 hws (gw_V mw_93 mw_94 mw_95 mw_5 mw_96) rfl rfl rfl hdX4_at ⟨Nat.le_of_ble_eq_true rfl, Nat.le_of_ble_eq_true rfl⟩) [0, 1, 2] [] [0, 1] [0, 1, 2] rfl rfl rfl rfl (by decide) rfl (fun _ => rfl) rfl 0 rfl rfl rfl rfl hl.1 rfl (Nat.le_of_ble_eq_true rfl) dX4_request_22 ⟨Nat.zero_le _, Nat.zero_le _⟩ (fun r4 _ H locs hw3 hP hD hS => ?_)
      have hP : va_P D vwCl (kX4 cB cI mo mb ma w_zf w_nf w_hf w_cf w_sp w_pc w_on w_wt w_ht w_bg w_cn w_al w_cl w_ie w_ww (0 : Int32) w_mm w_bs) H := hP
      have hD : va_D A (kX4 cB cI mo mb ma w_zf w_nf w_hf w_cf w_sp w_pc w_on w_wt w_ht w_bg w_cn w_al w_cl w_ie w_ww (0 : Int32) w_mm w_bs) := hD
      have hf := hf.trans (kE1 hw3)
      refine lv_iconst (v := 1) hx hb dX4_request_25 (by decide) ?_
      refine lv_iload_n hx hb dX4_request_26 rfl (lv_at hl 1 rfl) ?_
      refine lv_ishl hx hb dX4_request_27 ?_
      refine lv_ior hx hb dX4_request_28 ?_
      refine kc_Vv (wr := []) (As := [.int (65295 : Int32), .int (r4 ||| ((1 : Int32) <<< (a1 &&& (31 : Int32))))]) (rest := []) (fun u9 => (kX4 cB cI mo mb ma w_zf w_nf w_hf w_cf w_sp w_pc w_on w_wt w_ht w_bg w_cn w_al w_cl w_ie w_ww (0 : Int32) u9 w_bs)) ⟨hx, hb, hml, hown, hws⟩ hK hP hD hS hA hT (c_X4_puts l D cB cI mo mb ma H.size w_zf w_nf w_hf w_cf w_sp w_pc w_on w_wt w_ht w_bg w_cn w_al w_cl w_ie w_ww (0 : Int32) w_mm w_bs (65295 : Int32) (r4 ||| ((1 : Int32) <<< (a1 &&& (31 : Int32))))) (cwV 2 hws (gw_V mw_62 mw_63 mw_64 mw_5 mw_65) rfl rfl rfl hdX4_puts ⟨Nat.le_of_ble_eq_true rfl, Nat.le_of_ble_eq_true rfl⟩) [0, 1, 2] [] [0, 1] [0, 1, 2] rfl rfl rfl rfl (by decide) rfl (fun _ => rfl) rfl 0 rfl rfl rfl rfl hl.1 rfl (Nat.le_of_ble_eq_true rfl) dX4_request_29 ⟨Nat.zero_le _, Nat.zero_le _⟩ (fun b5 H locs hw6 hP hD hS => ?_)
      have hP : va_P D vwCl (kX4 cB cI mo mb ma w_zf w_nf w_hf w_cf w_sp w_pc w_on w_wt w_ht w_bg w_cn w_al w_cl w_ie w_ww (0 : Int32) b5 w_bs) H := hP
      have hD : va_D A (kX4 cB cI mo mb ma w_zf w_nf w_hf w_cf w_sp w_pc w_on w_wt w_ht w_bg w_cn w_al w_cl w_ie w_ww (0 : Int32) b5 w_bs) := hD
      have hf := hf.trans (kE1 hw6)
      refine lv_iconst (v := 1) hx hb dX4_request_32 (by decide) ?_
      rw [← hQ]
      exact W.zret (v := bI true) (ty := .boolean) hx hb hr (bI_nar _) (fun t ht hW => ⟨⟨bI true, ((0 : Int32), b5), rfl, ⟨true, rfl, hf.symm⟩, by rw [ht]; exact hP, va_K.moved hW.alike hK, hD⟩, hS.F ht⟩) hS.2.2 dX4_request_33
    · have hf := hf.trans (kf_le c2)
      refine lv_iconst (v := 0) hx hb dX4_request_14 (by decide) ?_
      rw [← hQ]
      exact W.zret (v := bI false) (ty := .boolean) hx hb hr (bI_nar _) (fun t ht hW => ⟨⟨bI false, ((0 : Int32), w_mm), rfl, ⟨false, rfl, hf.symm⟩, by rw [ht]; exact hP, va_K.moved hW.alike hK, hD⟩, hS.F ht⟩) hS.2.2 dX4_request_15
def fX4_reg (w_zf : Bool) (w_nf : Bool) (w_hf : Bool) (w_cf : Bool) (w_sp : Int32) (w_pc : Int32) (w_th : Int32) (w_bs : Nat → Int32) (a1 : Int32) : Int32 × Int32 := (kIf (kEq a1 (0 : Int32)) (kU1 (fX4_flags w_zf w_nf w_hf w_cf) (fun (r3 : Int32) => ((((w_bs (7 : Int32).toNatClampNeg) <<< ((8 : Int32) &&& (31 : Int32))) ||| r3), (0 : Int32)))) (kIf (kEq a1 (1 : Int32)) (kU1 (fX4_pair w_bs (a1 - (1 : Int32))) (fun (r6 : Int32) => (r6, (0 : Int32)))) (kIf (kEq a1 (2 : Int32)) (kU1 (fX4_pair w_bs (a1 - (1 : Int32))) (fun (r9 : Int32) => (r9, (0 : Int32)))) (kIf (kEq a1 (3 : Int32)) (kU1 (fX4_pair w_bs (a1 - (1 : Int32))) (fun (r12 : Int32) => (r12, (0 : Int32)))) (kIf (kEq a1 (4 : Int32)) (w_sp, (0 : Int32)) (kIf (kEq a1 (5 : Int32)) (w_pc, (0 : Int32)) ((-1 : Int32), (0 : Int32))))))))
def rmX4_reg : Room := { frames := 1, cells := 0, slots := 0, locals := 21 }
def wwX4_reg : List Cond := Cond.code yX4_reg cX4_reg 2 (some .int) :: wsL_law
theorem hdX4_reg : yX4_reg.cls = RX4 ∧ yX4_reg.cls ≠ "java/lang/invoke/MethodHandle" ∧ yX4_reg.cls ≠ "java/lang/invoke/VarHandle" ∧ (parseMethodDescriptor yX4_reg.desc).map (fun d => d.parameters.length) = some 1 := by decide +kernel
set_option maxHeartbeats 4000000 in
set_option maxRecDepth 100000 in
theorem c_X4_reg (l : Launch) (D : va_G) (cB : ClassId) (cI : ClassId) (mo mb ma sz : Nat) (w_zf : Bool) (w_nf : Bool) (w_hf : Bool) (w_cf : Bool) (w_sp : Int32) (w_pc : Int32) (w_on : Bool) (w_wt : Bool) (w_ht : Bool) (w_bg : Bool) (w_cn : Int32) (w_al : Int32) (w_cl : Int32) (w_ie : Bool) (w_ww : Bool) (w_th : Int32) (w_mm : Nat → Int32) (w_bs : Nat → Int32) (a1 : Int32)  : Met l yX4_reg wwX4_reg rmX4_reg (va_Pc [.ref mo, .int a1] (kp D (kX4 cB cI mo mb ma w_zf w_nf w_hf w_cf w_sp w_pc w_on w_wt w_ht w_bg w_cn w_al w_cl w_ie w_ww w_th w_mm w_bs) [(cB, .byte), (cI, .int)] sz)) (va_Qi (fun (r : Int32) (u9 : Int32) => (r, u9) = fX4_reg w_zf w_nf w_hf w_cf w_sp w_pc w_th w_bs a1) (fun u9 t => kq D (kX4 cB cI mo mb ma w_zf w_nf w_hf w_cf w_sp w_pc w_on w_wt w_ht w_bg w_cn w_al w_cl w_ie w_ww u9 w_mm w_bs) [(cB, .byte), (cI, .int)] (va_A (kX4 cB cI mo mb ma w_zf w_nf w_hf w_cf w_sp w_pc w_on w_wt w_ht w_bg w_cn w_al w_cl w_ie w_ww w_th w_mm w_bs) sz) t) (va_A (kX4 cB cI mo mb ma w_zf w_nf w_hf w_cf w_sp w_pc w_on w_wt w_ht w_bg w_cn w_al w_cl w_ie w_ww w_th w_mm w_bs) sz)) 0 0 (va_A (kX4 cB cI mo mb ma w_zf w_nf w_hf w_cf w_sp w_pc w_on w_wt w_ht w_bg w_cn w_al w_cl w_ie w_ww w_th w_mm w_bs) sz) := by
  refine Met.ofW (cc := cX4_reg) (maxL := 2) (ret := (some .int)) (by decide) rfl ?_
  intro p e s m args below meth c s₁ B hml hv
  obtain ⟨rfl, hsz, hP, hK, hD0, hT⟩ := hv
  have hx := B.exec
  have hb := B.bytes
  have hr := B.returns
  have hts := atoms_spec (ws := wwX4_reg) B.pre
  have hws : ∀ w ∈ wsL_law, w.before _ s = true := fun w h => hts w (List.mem_cons_of_mem _ h)
  have hown : s.vm.findClass RX4 = some m.cls := findClass_of_methodNamed B.named
  have hlocks := B.notSynchronized
  subst hsz
  have hD := hD0.self (sz := s.heap.size)
  generalize hAe : va_A (kX4 cB cI mo mb ma w_zf w_nf w_hf w_cf w_sp w_pc w_on w_wt w_ht w_bg w_cn w_al w_cl w_ie w_ww w_th w_mm w_bs) s.heap.size = A at hD hT ⊢
  have hA : ∀ q : Nat, s.heap.size ≤ q → A q := fun q h => by rw [← hAe]; exact Or.inr h
  have hS : va_S A s.heap s.heap [] := va_S.rf
  have hl := lv_entry ([.ref mo, .int a1]) (n := 2) (Nat.le_of_ble_eq_true rfl)
  rw [lg_entry_eq]
  generalize (lg_sl ([.ref mo, .int a1]) ++ List.replicate (2 - (lg_sl ([.ref mo, .int a1])).length) Slot.unset).toArray = ls at hl ⊢
  have hl : lv_has ls 2 [(0, .ref mo), (1, .int a1)] := hl
  generalize hQ : MQ _ _ _ _ _ _ _ = Q
  obtain ⟨H, hHe⟩ : ∃ H : Heap, H = s.heap := ⟨_, rfl⟩
  obtain ⟨locs, hle⟩ : ∃ L : List Loc, L = [] := ⟨_, rfl⟩
  have hP : va_P D vwCl (kX4 cB cI mo mb ma w_zf w_nf w_hf w_cf w_sp w_pc w_on w_wt w_ht w_bg w_cn w_al w_cl w_ie w_ww w_th w_mm w_bs) H := by rw [hHe]; exact hP
  have hS : va_S A s.heap H locs := by rw [hHe, hle]; exact hS
  refine kw_start hHe.symm hle.symm ?_
  have hf : fX4_reg w_zf w_nf w_hf w_cf w_sp w_pc w_th w_bs a1 = fX4_reg w_zf w_nf w_hf w_cf w_sp w_pc w_th w_bs a1 := rfl
  refine lv_aload_n hx hb dX4_reg_0 rfl (lv_at hl 0 rfl) ?_
  refine lv_iconst (v := 0) hx hb dX4_reg_1 (by decide) ?_
  refine va_put (D := D) (ci := 4) (v := .int (0 : Int32)) (ty := .int) (C := RX4) (T := TX4) (N := 18) hx hb hws inlX4 tyX4 tyX4_ok nmX4 hown hK hP hD hS 0 rfl rfl 17 (by decide) (hws _ mw_60) (fun _ h9 => h9) rfl (tyX4_ok 17 (by decide)) rfl rfl (Nat.le_of_ble_eq_true rfl) dX4_reg_2 (fun H locs hP hD hS => ?_)
  have hP : va_P D vwCl (kX4 cB cI mo mb ma w_zf w_nf w_hf w_cf w_sp w_pc w_on w_wt w_ht w_bg w_cn w_al w_cl w_ie w_ww (0 : Int32) w_mm w_bs) H := hP
  have hD : va_D A (kX4 cB cI mo mb ma w_zf w_nf w_hf w_cf w_sp w_pc w_on w_wt w_ht w_bg w_cn w_al w_cl w_ie w_ww (0 : Int32) w_mm w_bs) := hD
  refine lv_iload_n hx hb dX4_reg_5 rfl (lv_at hl 1 rfl) ?_
  by_cases c1 : a1 = (0 : Int32)
  · have hf := hf.trans (kt_eq c1)
    refine lv_tableIn (off := 38) (tgt := 44) hx hb dX4_reg_6 (by rw [c1]; decide) (by rw [c1]; decide) (by rw [c1]; decide) (by decide) ?_
    refine lv_aload_n hx hb dX4_reg_44 rfl (lv_at hl 0 rfl) ?_
    refine va_get (D := D) (ci := 4) (v := .ref ma) (C := RX4) (T := TX4) (N := 18) hx hb hws inlX4 hown hK hP 0 rfl rfl 1 (by decide) (hws _ mw_45) (fun _ h9 => h9) rfl dX4_reg_45 ?_
    refine lv_bipush (v := 7) hx hb dX4_reg_48 (by decide) ?_
    refine va_iald hx hb hK hP 2 1 rfl rfl (by unfold vp_in; decide) dX4_reg_50 ?_
    refine lv_bipush (v := 8) hx hb dX4_reg_51 (by decide) ?_
    refine lv_ishl hx hb dX4_reg_53 ?_
    refine lv_aload_n hx hb dX4_reg_54 rfl (lv_at hl 0 rfl) ?_
    refine kc_Vi (wr := []) (As := []) (rest := [.int ((w_bs (7 : Int32).toNatClampNeg) <<< ((8 : Int32) &&& (31 : Int32)))]) (fun _ => (kX4 cB cI mo mb ma w_zf w_nf w_hf w_cf w_sp w_pc w_on w_wt w_ht w_bg w_cn w_al w_cl w_ie w_ww (0 : Int32) w_mm w_bs)) ⟨hx, hb, hml, hown, hws⟩ hK hP hD hS hA hT (c_X4_flags l D cB cI mo mb ma H.size w_zf w_nf w_hf w_cf w_sp w_pc w_on w_wt w_ht w_bg w_cn w_al w_cl w_ie w_ww (0 : Int32) w_mm w_bs ) (cwV 0 hws (gw_V mw_563 mw_564 mw_565 mw_5 mw_566) rfl rfl rfl hdX4_flags ⟨Nat.le_of_ble_eq_true rfl, Nat.le_of_ble_eq_true rfl⟩) [0, 1, 2] [] [0, 1] [0, 1, 2] rfl rfl rfl rfl (by decide) rfl (fun _ => rfl) rfl 0 rfl rfl rfl rfl hl.1 rfl (Nat.le_of_ble_eq_true rfl) dX4_reg_55 ⟨Nat.zero_le _, Nat.zero_le _⟩ (fun r3 _ H locs hw2 hP hD hS => ?_)
    have hP : va_P D vwCl (kX4 cB cI mo mb ma w_zf w_nf w_hf w_cf w_sp w_pc w_on w_wt w_ht w_bg w_cn w_al w_cl w_ie w_ww (0 : Int32) w_mm w_bs) H := hP
    have hD : va_D A (kX4 cB cI mo mb ma w_zf w_nf w_hf w_cf w_sp w_pc w_on w_wt w_ht w_bg w_cn w_al w_cl w_ie w_ww (0 : Int32) w_mm w_bs) := hD
    have hf := hf.trans (kE1 hw2)
    refine lv_ior hx hb dX4_reg_58 ?_
    rw [← hQ]
    exact W.iret (v := (((w_bs (7 : Int32).toNatClampNeg) <<< ((8 : Int32) &&& (31 : Int32))) ||| r3)) hx hb hr (fun t ht hW => ⟨⟨(((w_bs (7 : Int32).toNatClampNeg) <<< ((8 : Int32) &&& (31 : Int32))) ||| r3), (0 : Int32), rfl, hf.symm, by rw [ht]; exact hP, va_K.moved hW.alike hK, hD⟩, hS.F ht⟩) hS.2.2 dX4_reg_59
  · have hf := hf.trans (kf_eq c1)
    by_cases c4 : a1 = (1 : Int32)
    · have hf := hf.trans (kt_eq c4)
      refine lv_tableIn (off := 54) (tgt := 60) hx hb dX4_reg_6 (by rw [c4]; decide) (by rw [c4]; decide) (by rw [c4]; decide) (by decide) ?_
      refine lv_aload_n hx hb dX4_reg_60 rfl (lv_at hl 0 rfl) ?_
      refine lv_iload_n hx hb dX4_reg_61 rfl (lv_at hl 1 rfl) ?_
      refine lv_iconst (v := 1) hx hb dX4_reg_62 (by decide) ?_
      refine lv_isub hx hb dX4_reg_63 ?_
      refine kc_Vi (wr := []) (As := [.int (a1 - (1 : Int32))]) (rest := []) (fun _ => (kX4 cB cI mo mb ma w_zf w_nf w_hf w_cf w_sp w_pc w_on w_wt w_ht w_bg w_cn w_al w_cl w_ie w_ww (0 : Int32) w_mm w_bs)) ⟨hx, hb, hml, hown, hws⟩ hK hP hD hS hA hT (c_X4_pair l D cB cI mo mb ma H.size w_zf w_nf w_hf w_cf w_sp w_pc w_on w_wt w_ht w_bg w_cn w_al w_cl w_ie w_ww (0 : Int32) w_mm w_bs (a1 - (1 : Int32)) (by rw [c4]; unfold vp_in; decide)) (cwV 1 hws (gw_V mw_444 mw_445 mw_446 mw_5 mw_447) rfl rfl rfl hdX4_pair ⟨Nat.le_of_ble_eq_true rfl, Nat.le_of_ble_eq_true rfl⟩) [0, 1, 2] [] [0, 1] [0, 1, 2] rfl rfl rfl rfl (by decide) rfl (fun _ => rfl) rfl 0 rfl rfl rfl rfl hl.1 rfl (Nat.le_of_ble_eq_true rfl) dX4_reg_64 ⟨Nat.zero_le _, Nat.zero_le _⟩ (fun r6 _ H locs hw5 hP hD hS => ?_)
      have hP : va_P D vwCl (kX4 cB cI mo mb ma w_zf w_nf w_hf w_cf w_sp w_pc w_on w_wt w_ht w_bg w_cn w_al w_cl w_ie w_ww (0 : Int32) w_mm w_bs) H := hP
      have hD : va_D A (kX4 cB cI mo mb ma w_zf w_nf w_hf w_cf w_sp w_pc w_on w_wt w_ht w_bg w_cn w_al w_cl w_ie w_ww (0 : Int32) w_mm w_bs) := hD
      have hf := hf.trans (kE1 hw5)
      rw [← hQ]
      exact W.iret (v := r6) hx hb hr (fun t ht hW => ⟨⟨r6, (0 : Int32), rfl, hf.symm, by rw [ht]; exact hP, va_K.moved hW.alike hK, hD⟩, hS.F ht⟩) hS.2.2 dX4_reg_67
    · have hf := hf.trans (kf_eq c4)
      by_cases c7 : a1 = (2 : Int32)
      · have hf := hf.trans (kt_eq c7)
        refine lv_tableIn (off := 54) (tgt := 60) hx hb dX4_reg_6 (by rw [c7]; decide) (by rw [c7]; decide) (by rw [c7]; decide) (by decide) ?_
        refine lv_aload_n hx hb dX4_reg_60 rfl (lv_at hl 0 rfl) ?_
        refine lv_iload_n hx hb dX4_reg_61 rfl (lv_at hl 1 rfl) ?_
        refine lv_iconst (v := 1) hx hb dX4_reg_62 (by decide) ?_
        refine lv_isub hx hb dX4_reg_63 ?_
        refine kc_Vi (wr := []) (As := [.int (a1 - (1 : Int32))]) (rest := []) (fun _ => (kX4 cB cI mo mb ma w_zf w_nf w_hf w_cf w_sp w_pc w_on w_wt w_ht w_bg w_cn w_al w_cl w_ie w_ww (0 : Int32) w_mm w_bs)) ⟨hx, hb, hml, hown, hws⟩ hK hP hD hS hA hT (c_X4_pair l D cB cI mo mb ma H.size w_zf w_nf w_hf w_cf w_sp w_pc w_on w_wt w_ht w_bg w_cn w_al w_cl w_ie w_ww (0 : Int32) w_mm w_bs (a1 - (1 : Int32)) (by rw [c7]; unfold vp_in; decide)) (cwV 1 hws (gw_V mw_444 mw_445 mw_446 mw_5 mw_447) rfl rfl rfl hdX4_pair ⟨Nat.le_of_ble_eq_true rfl, Nat.le_of_ble_eq_true rfl⟩) [0, 1, 2] [] [0, 1] [0, 1, 2] rfl rfl rfl rfl (by decide) rfl (fun _ => rfl) rfl 0 rfl rfl rfl rfl hl.1 rfl (Nat.le_of_ble_eq_true rfl) dX4_reg_64 ⟨Nat.zero_le _, Nat.zero_le _⟩ (fun r9 _ H locs hw8 hP hD hS => ?_)
        have hP : va_P D vwCl (kX4 cB cI mo mb ma w_zf w_nf w_hf w_cf w_sp w_pc w_on w_wt w_ht w_bg w_cn w_al w_cl w_ie w_ww (0 : Int32) w_mm w_bs) H := hP
        have hD : va_D A (kX4 cB cI mo mb ma w_zf w_nf w_hf w_cf w_sp w_pc w_on w_wt w_ht w_bg w_cn w_al w_cl w_ie w_ww (0 : Int32) w_mm w_bs) := hD
        have hf := hf.trans (kE1 hw8)
        rw [← hQ]
        exact W.iret (v := r9) hx hb hr (fun t ht hW => ⟨⟨r9, (0 : Int32), rfl, hf.symm, by rw [ht]; exact hP, va_K.moved hW.alike hK, hD⟩, hS.F ht⟩) hS.2.2 dX4_reg_67
      · have hf := hf.trans (kf_eq c7)
        by_cases c10 : a1 = (3 : Int32)
        · have hf := hf.trans (kt_eq c10)
          refine lv_tableIn (off := 54) (tgt := 60) hx hb dX4_reg_6 (by rw [c10]; decide) (by rw [c10]; decide) (by rw [c10]; decide) (by decide) ?_
          refine lv_aload_n hx hb dX4_reg_60 rfl (lv_at hl 0 rfl) ?_
          refine lv_iload_n hx hb dX4_reg_61 rfl (lv_at hl 1 rfl) ?_
          refine lv_iconst (v := 1) hx hb dX4_reg_62 (by decide) ?_
          refine lv_isub hx hb dX4_reg_63 ?_
          refine kc_Vi (wr := []) (As := [.int (a1 - (1 : Int32))]) (rest := []) (fun _ => (kX4 cB cI mo mb ma w_zf w_nf w_hf w_cf w_sp w_pc w_on w_wt w_ht w_bg w_cn w_al w_cl w_ie w_ww (0 : Int32) w_mm w_bs)) ⟨hx, hb, hml, hown, hws⟩ hK hP hD hS hA hT (c_X4_pair l D cB cI mo mb ma H.size w_zf w_nf w_hf w_cf w_sp w_pc w_on w_wt w_ht w_bg w_cn w_al w_cl w_ie w_ww (0 : Int32) w_mm w_bs (a1 - (1 : Int32)) (by rw [c10]; unfold vp_in; decide)) (cwV 1 hws (gw_V mw_444 mw_445 mw_446 mw_5 mw_447) rfl rfl rfl hdX4_pair ⟨Nat.le_of_ble_eq_true rfl, Nat.le_of_ble_eq_true rfl⟩) [0, 1, 2] [] [0, 1] [0, 1, 2] rfl rfl rfl rfl (by decide) rfl (fun _ => rfl) rfl 0 rfl rfl rfl rfl hl.1 rfl (Nat.le_of_ble_eq_true rfl) dX4_reg_64 ⟨Nat.zero_le _, Nat.zero_le _⟩ (fun r12 _ H locs hw11 hP hD hS => ?_)
          have hP : va_P D vwCl (kX4 cB cI mo mb ma w_zf w_nf w_hf w_cf w_sp w_pc w_on w_wt w_ht w_bg w_cn w_al w_cl w_ie w_ww (0 : Int32) w_mm w_bs) H := hP
          have hD : va_D A (kX4 cB cI mo mb ma w_zf w_nf w_hf w_cf w_sp w_pc w_on w_wt w_ht w_bg w_cn w_al w_cl w_ie w_ww (0 : Int32) w_mm w_bs) := hD
          have hf := hf.trans (kE1 hw11)
          rw [← hQ]
          exact W.iret (v := r12) hx hb hr (fun t ht hW => ⟨⟨r12, (0 : Int32), rfl, hf.symm, by rw [ht]; exact hP, va_K.moved hW.alike hK, hD⟩, hS.F ht⟩) hS.2.2 dX4_reg_67
        · have hf := hf.trans (kf_eq c10)
          by_cases c13 : a1 = (4 : Int32)
          · have hf := hf.trans (kt_eq c13)
            refine lv_tableIn (off := 62) (tgt := 68) hx hb dX4_reg_6 (by rw [c13]; decide) (by rw [c13]; decide) (by rw [c13]; decide) (by decide) ?_
            refine lv_aload_n hx hb dX4_reg_68 rfl (lv_at hl 0 rfl) ?_
            refine va_get (D := D) (ci := 4) (v := .int w_sp) (C := RX4) (T := TX4) (N := 18) hx hb hws inlX4 hown hK hP 0 rfl rfl 6 (by decide) (hws _ mw_382) (fun _ h9 => h9) rfl dX4_reg_69 ?_
            rw [← hQ]
            exact W.iret (v := w_sp) hx hb hr (fun t ht hW => ⟨⟨w_sp, (0 : Int32), rfl, hf.symm, by rw [ht]; exact hP, va_K.moved hW.alike hK, hD⟩, hS.F ht⟩) hS.2.2 dX4_reg_72
          · have hf := hf.trans (kf_eq c13)
            by_cases c14 : a1 = (5 : Int32)
            · have hf := hf.trans (kt_eq c14)
              refine lv_tableIn (off := 67) (tgt := 73) hx hb dX4_reg_6 (by rw [c14]; decide) (by rw [c14]; decide) (by rw [c14]; decide) (by decide) ?_
              refine lv_aload_n hx hb dX4_reg_73 rfl (lv_at hl 0 rfl) ?_
              refine va_get (D := D) (ci := 4) (v := .int w_pc) (C := RX4) (T := TX4) (N := 18) hx hb hws inlX4 hown hK hP 0 rfl rfl 7 (by decide) (hws _ mw_370) (fun _ h9 => h9) rfl dX4_reg_74 ?_
              rw [← hQ]
              exact W.iret (v := w_pc) hx hb hr (fun t ht hW => ⟨⟨w_pc, (0 : Int32), rfl, hf.symm, by rw [ht]; exact hP, va_K.moved hW.alike hK, hD⟩, hS.F ht⟩) hS.2.2 dX4_reg_77
            · have hf := hf.trans (kf_eq c14)
              refine lv_tableOut (tgt := 78) hx hb dX4_reg_6 (by have n0 := lv_neT c1 (a := 0) rfl; have n1 := lv_neT c4 (a := 1) rfl; have n2 := lv_neT c7 (a := 2) rfl; have n3 := lv_neT c10 (a := 3) rfl; have n4 := lv_neT c13 (a := 4) rfl; have n5 := lv_neT c14 (a := 5) rfl; omega) (by decide) ?_
              refine lv_iconst (v := -1) hx hb dX4_reg_78 (by decide) ?_
              rw [← hQ]
              exact W.iret (v := (-1 : Int32)) hx hb hr (fun t ht hW => ⟨⟨(-1 : Int32), (0 : Int32), rfl, hf.symm, by rw [ht]; exact hP, va_K.moved hW.alike hK, hD⟩, hS.F ht⟩) hS.2.2 dX4_reg_79
def fX4_set (w_zf : Bool) (w_nf : Bool) (w_hf : Bool) (w_cf : Bool) (w_sp : Int32) (w_pc : Int32) (w_th : Int32) (w_bs : Nat → Int32) (a1 : Int32) (a2 : Int32) : Bool × Bool × Bool × Bool × Bool × Int32 × Int32 × Int32 × (Nat → Int32) := (kIf (kEq a1 (0 : Int32)) (kU1 (upd w_bs (7 : Int32).toNatClampNeg ((a2 >>> ((8 : Int32) &&& (31 : Int32))) &&& (255 : Int32))) (fun (f2 : Nat → Int32) => (kU4 (fX4_setFlags w_zf w_nf w_hf w_cf a2) (fun (b3 : Bool) (b4 : Bool) (b5 : Bool) (b6 : Bool) => (true, b3, b4, b5, b6, w_sp, w_pc, (0 : Int32), f2))))) (kIf (kEq a1 (1 : Int32)) (kU1 (fX4_setPair w_bs (a1 - (1 : Int32)) (a2 &&& (65535 : Int32))) (fun (b9 : Nat → Int32) => (true, w_zf, w_nf, w_hf, w_cf, w_sp, w_pc, (0 : Int32), b9))) (kIf (kEq a1 (2 : Int32)) (kU1 (fX4_setPair w_bs (a1 - (1 : Int32)) (a2 &&& (65535 : Int32))) (fun (b12 : Nat → Int32) => (true, w_zf, w_nf, w_hf, w_cf, w_sp, w_pc, (0 : Int32), b12))) (kIf (kEq a1 (3 : Int32)) (kU1 (fX4_setPair w_bs (a1 - (1 : Int32)) (a2 &&& (65535 : Int32))) (fun (b15 : Nat → Int32) => (true, w_zf, w_nf, w_hf, w_cf, w_sp, w_pc, (0 : Int32), b15))) (kIf (kEq a1 (4 : Int32)) (kU1 ((a2 &&& (65535 : Int32))) (fun (x18 : Int32) => (true, w_zf, w_nf, w_hf, w_cf, x18, w_pc, (0 : Int32), w_bs))) (kIf (kEq a1 (5 : Int32)) (kU1 ((a2 &&& (65535 : Int32))) (fun (x20 : Int32) => (true, w_zf, w_nf, w_hf, w_cf, w_sp, x20, (0 : Int32), w_bs))) (false, w_zf, w_nf, w_hf, w_cf, w_sp, w_pc, (0 : Int32), w_bs)))))))
def rmX4_set : Room := { frames := 1, cells := 0, slots := 0, locals := 22 }
def wwX4_set : List Cond := Cond.code yX4_set cX4_set 3 (some .boolean) :: wsL_law
theorem hdX4_set : yX4_set.cls = RX4 ∧ yX4_set.cls ≠ "java/lang/invoke/MethodHandle" ∧ yX4_set.cls ≠ "java/lang/invoke/VarHandle" ∧ (parseMethodDescriptor yX4_set.desc).map (fun d => d.parameters.length) = some 2 := by decide +kernel
set_option maxHeartbeats 4000000 in
set_option maxRecDepth 100000 in
theorem c_X4_set (l : Launch) (D : va_G) (cB : ClassId) (cI : ClassId) (mo mb ma sz : Nat) (w_zf : Bool) (w_nf : Bool) (w_hf : Bool) (w_cf : Bool) (w_sp : Int32) (w_pc : Int32) (w_on : Bool) (w_wt : Bool) (w_ht : Bool) (w_bg : Bool) (w_cn : Int32) (w_al : Int32) (w_cl : Int32) (w_ie : Bool) (w_ww : Bool) (w_th : Int32) (w_mm : Nat → Int32) (w_bs : Nat → Int32) (a1 : Int32) (a2 : Int32)  : Met l yX4_set wwX4_set rmX4_set (va_Pc [.ref mo, .int a1, .int a2] (kp D (kX4 cB cI mo mb ma w_zf w_nf w_hf w_cf w_sp w_pc w_on w_wt w_ht w_bg w_cn w_al w_cl w_ie w_ww w_th w_mm w_bs) [(cB, .byte), (cI, .int)] sz)) (va_Qi (fun (r : Int32) (u9 : Bool × Bool × Bool × Bool × Int32 × Int32 × Int32 × (Nat → Int32)) => ∃ z9 : Bool, r = bI z9 ∧ (z9, u9) = fX4_set w_zf w_nf w_hf w_cf w_sp w_pc w_th w_bs a1 a2) (fun u9 t => kq D (kX4 cB cI mo mb ma (u9.1) (u9.2.1) (u9.2.2.1) (u9.2.2.2.1) (u9.2.2.2.2.1) (u9.2.2.2.2.2.1) w_on w_wt w_ht w_bg w_cn w_al w_cl w_ie w_ww (u9.2.2.2.2.2.2.1) w_mm (u9.2.2.2.2.2.2.2)) [(cB, .byte), (cI, .int)] (va_A (kX4 cB cI mo mb ma w_zf w_nf w_hf w_cf w_sp w_pc w_on w_wt w_ht w_bg w_cn w_al w_cl w_ie w_ww w_th w_mm w_bs) sz) t) (va_A (kX4 cB cI mo mb ma w_zf w_nf w_hf w_cf w_sp w_pc w_on w_wt w_ht w_bg w_cn w_al w_cl w_ie w_ww w_th w_mm w_bs) sz)) 0 0 (va_A (kX4 cB cI mo mb ma w_zf w_nf w_hf w_cf w_sp w_pc w_on w_wt w_ht w_bg w_cn w_al w_cl w_ie w_ww w_th w_mm w_bs) sz) := by
  refine Met.ofW (cc := cX4_set) (maxL := 3) (ret := (some .boolean)) (by decide) rfl ?_
  intro p e s m args below meth c s₁ B hml hv
  obtain ⟨rfl, hsz, hP, hK, hD0, hT⟩ := hv
  have hx := B.exec
  have hb := B.bytes
  have hr := B.returns
  have hts := atoms_spec (ws := wwX4_set) B.pre
  have hws : ∀ w ∈ wsL_law, w.before _ s = true := fun w h => hts w (List.mem_cons_of_mem _ h)
  have hown : s.vm.findClass RX4 = some m.cls := findClass_of_methodNamed B.named
  have hlocks := B.notSynchronized
  subst hsz
  have hD := hD0.self (sz := s.heap.size)
  generalize hAe : va_A (kX4 cB cI mo mb ma w_zf w_nf w_hf w_cf w_sp w_pc w_on w_wt w_ht w_bg w_cn w_al w_cl w_ie w_ww w_th w_mm w_bs) s.heap.size = A at hD hT ⊢
  have hA : ∀ q : Nat, s.heap.size ≤ q → A q := fun q h => by rw [← hAe]; exact Or.inr h
  have hS : va_S A s.heap s.heap [] := va_S.rf
  have hl := lv_entry ([.ref mo, .int a1, .int a2]) (n := 3) (Nat.le_of_ble_eq_true rfl)
  rw [lg_entry_eq]
  generalize (lg_sl ([.ref mo, .int a1, .int a2]) ++ List.replicate (3 - (lg_sl ([.ref mo, .int a1, .int a2])).length) Slot.unset).toArray = ls at hl ⊢
  have hl : lv_has ls 3 [(0, .ref mo), (1, .int a1), (2, .int a2)] := hl
  generalize hQ : MQ _ _ _ _ _ _ _ = Q
  obtain ⟨H, hHe⟩ : ∃ H : Heap, H = s.heap := ⟨_, rfl⟩
  obtain ⟨locs, hle⟩ : ∃ L : List Loc, L = [] := ⟨_, rfl⟩
  have hP : va_P D vwCl (kX4 cB cI mo mb ma w_zf w_nf w_hf w_cf w_sp w_pc w_on w_wt w_ht w_bg w_cn w_al w_cl w_ie w_ww w_th w_mm w_bs) H := by rw [hHe]; exact hP
  have hS : va_S A s.heap H locs := by rw [hHe, hle]; exact hS
  refine kw_start hHe.symm hle.symm ?_
  have hf : fX4_set w_zf w_nf w_hf w_cf w_sp w_pc w_th w_bs a1 a2 = fX4_set w_zf w_nf w_hf w_cf w_sp w_pc w_th w_bs a1 a2 := rfl
  refine lv_aload_n hx hb dX4_set_0 rfl (lv_at hl 0 rfl) ?_
  refine lv_iconst (v := 0) hx hb dX4_set_1 (by decide) ?_
  refine va_put (D := D) (ci := 4) (v := .int (0 : Int32)) (ty := .int) (C := RX4) (T := TX4) (N := 18) hx hb hws inlX4 tyX4 tyX4_ok nmX4 hown hK hP hD hS 0 rfl rfl 17 (by decide) (hws _ mw_60) (fun _ h9 => h9) rfl (tyX4_ok 17 (by decide)) rfl rfl (Nat.le_of_ble_eq_true rfl) dX4_set_2 (fun H locs hP hD hS => ?_)
  have hP : va_P D vwCl (kX4 cB cI mo mb ma w_zf w_nf w_hf w_cf w_sp w_pc w_on w_wt w_ht w_bg w_cn w_al w_cl w_ie w_ww (0 : Int32) w_mm w_bs) H := hP
  have hD : va_D A (kX4 cB cI mo mb ma w_zf w_nf w_hf w_cf w_sp w_pc w_on w_wt w_ht w_bg w_cn w_al w_cl w_ie w_ww (0 : Int32) w_mm w_bs) := hD
  refine lv_iload_n hx hb dX4_set_5 rfl (lv_at hl 1 rfl) ?_
  by_cases c1 : a1 = (0 : Int32)
  · have hf := hf.trans (kt_eq c1)
    refine lv_tableIn (off := 38) (tgt := 44) hx hb dX4_set_6 (by rw [c1]; decide) (by rw [c1]; decide) (by rw [c1]; decide) (by decide) ?_
    refine lv_aload_n hx hb dX4_set_44 rfl (lv_at hl 0 rfl) ?_
    refine va_get (D := D) (ci := 4) (v := .ref ma) (C := RX4) (T := TX4) (N := 18) hx hb hws inlX4 hown hK hP 0 rfl rfl 1 (by decide) (hws _ mw_45) (fun _ h9 => h9) rfl dX4_set_45 ?_
    refine lv_bipush (v := 7) hx hb dX4_set_48 (by decide) ?_
    refine lv_iload_n hx hb dX4_set_50 rfl (lv_at hl 2 rfl) ?_
    refine lv_bipush (v := 8) hx hb dX4_set_51 (by decide) ?_
    refine lv_ishr hx hb dX4_set_53 ?_
    refine lv_sipush (v := 255) hx hb dX4_set_54 (by decide) ?_
    refine lv_iand hx hb dX4_set_57 ?_
    refine va_iast hx hb hK hP hD hS 2 1 rfl rfl (by unfold vp_in; decide) dX4_set_58 (fun H locs hP hD hS => ?_)
    obtain ⟨f2, ef2⟩ : ∃ f9 : Nat → Int32, f9 = upd w_bs (7 : Int32).toNatClampNeg ((a2 >>> ((8 : Int32) &&& (31 : Int32))) &&& (255 : Int32)) := ⟨_, rfl⟩
    have hf := hf.trans (kE1 ef2)
    have hP : va_P D vwCl (kX4 cB cI mo mb ma w_zf w_nf w_hf w_cf w_sp w_pc w_on w_wt w_ht w_bg w_cn w_al w_cl w_ie w_ww (0 : Int32) w_mm f2) H := by rw [ef2]; exact hP
    have hD : va_D A (kX4 cB cI mo mb ma w_zf w_nf w_hf w_cf w_sp w_pc w_on w_wt w_ht w_bg w_cn w_al w_cl w_ie w_ww (0 : Int32) w_mm f2) := by rw [ef2]; exact hD
    refine lv_aload_n hx hb dX4_set_59 rfl (lv_at hl 0 rfl) ?_
    refine lv_iload_n hx hb dX4_set_60 rfl (lv_at hl 2 rfl) ?_
    refine kc_Vv (wr := []) (As := [.int a2]) (rest := []) (fun u9 => (kX4 cB cI mo mb ma (u9.1) (u9.2.1) (u9.2.2.1) (u9.2.2.2) w_sp w_pc w_on w_wt w_ht w_bg w_cn w_al w_cl w_ie w_ww (0 : Int32) w_mm f2)) ⟨hx, hb, hml, hown, hws⟩ hK hP hD hS hA hT (c_X4_setFlags l D cB cI mo mb ma H.size w_zf w_nf w_hf w_cf w_sp w_pc w_on w_wt w_ht w_bg w_cn w_al w_cl w_ie w_ww (0 : Int32) w_mm f2 a2) (cwV 1 hws (gw_V mw_535 mw_536 mw_537 mw_5 mw_538) rfl rfl rfl hdX4_setFlags ⟨Nat.le_of_ble_eq_true rfl, Nat.le_of_ble_eq_true rfl⟩) [0, 1, 2] [] [0, 1] [0, 1, 2] rfl rfl rfl rfl (by decide) rfl (fun _ => rfl) rfl 0 rfl rfl rfl rfl hl.1 rfl (Nat.le_of_ble_eq_true rfl) dX4_set_61 ⟨Nat.zero_le _, Nat.zero_le _⟩ (fun u9 H locs hw7 hP hD hS => ?_)
    obtain ⟨b3, b4, b5, b6⟩ := u9
    have hP : va_P D vwCl (kX4 cB cI mo mb ma b3 b4 b5 b6 w_sp w_pc w_on w_wt w_ht w_bg w_cn w_al w_cl w_ie w_ww (0 : Int32) w_mm f2) H := hP
    have hD : va_D A (kX4 cB cI mo mb ma b3 b4 b5 b6 w_sp w_pc w_on w_wt w_ht w_bg w_cn w_al w_cl w_ie w_ww (0 : Int32) w_mm f2) := hD
    have hf := hf.trans (kE4 hw7)
    refine lv_iconst (v := 1) hx hb dX4_set_64 (by decide) ?_
    rw [← hQ]
    exact W.zret (v := bI true) (ty := .boolean) hx hb hr (bI_nar _) (fun t ht hW => ⟨⟨bI true, (b3, b4, b5, b6, w_sp, w_pc, (0 : Int32), f2), rfl, ⟨true, rfl, hf.symm⟩, by rw [ht]; exact hP, va_K.moved hW.alike hK, hD⟩, hS.F ht⟩) hS.2.2 dX4_set_65
  · have hf := hf.trans (kf_eq c1)
    by_cases c8 : a1 = (1 : Int32)
    · have hf := hf.trans (kt_eq c8)
      refine lv_tableIn (off := 60) (tgt := 66) hx hb dX4_set_6 (by rw [c8]; decide) (by rw [c8]; decide) (by rw [c8]; decide) (by decide) ?_
      refine lv_aload_n hx hb dX4_set_66 rfl (lv_at hl 0 rfl) ?_
      refine lv_iload_n hx hb dX4_set_67 rfl (lv_at hl 1 rfl) ?_
      refine lv_iconst (v := 1) hx hb dX4_set_68 (by decide) ?_
      refine lv_isub hx hb dX4_set_69 ?_
      refine lv_iload_n hx hb dX4_set_70 rfl (lv_at hl 2 rfl) ?_
      refine lv_ldc (v := 65535) hx hb hown (hws _ mw_61) dX4_set_71 ?_
      refine lv_iand hx hb dX4_set_73 ?_
      refine kc_Vv (wr := []) (As := [.int (a1 - (1 : Int32)), .int (a2 &&& (65535 : Int32))]) (rest := []) (fun u9 => (kX4 cB cI mo mb ma w_zf w_nf w_hf w_cf w_sp w_pc w_on w_wt w_ht w_bg w_cn w_al w_cl w_ie w_ww (0 : Int32) w_mm u9)) ⟨hx, hb, hml, hown, hws⟩ hK hP hD hS hA hT (c_X4_setPair l D cB cI mo mb ma H.size w_zf w_nf w_hf w_cf w_sp w_pc w_on w_wt w_ht w_bg w_cn w_al w_cl w_ie w_ww (0 : Int32) w_mm w_bs (a1 - (1 : Int32)) (a2 &&& (65535 : Int32)) (by rw [c8]; unfold vp_in; decide)) (cwV 2 hws (gw_V mw_454 mw_455 mw_456 mw_5 mw_457) rfl rfl rfl hdX4_setPair ⟨Nat.le_of_ble_eq_true rfl, Nat.le_of_ble_eq_true rfl⟩) [0, 1, 2] [] [0, 1] [0, 1, 2] rfl rfl rfl rfl (by decide) rfl (fun _ => rfl) rfl 0 rfl rfl rfl rfl hl.1 rfl (Nat.le_of_ble_eq_true rfl) dX4_set_74 ⟨Nat.zero_le _, Nat.zero_le _⟩ (fun b9 H locs hw10 hP hD hS => ?_)
      have hP : va_P D vwCl (kX4 cB cI mo mb ma w_zf w_nf w_hf w_cf w_sp w_pc w_on w_wt w_ht w_bg w_cn w_al w_cl w_ie w_ww (0 : Int32) w_mm b9) H := hP
      have hD : va_D A (kX4 cB cI mo mb ma w_zf w_nf w_hf w_cf w_sp w_pc w_on w_wt w_ht w_bg w_cn w_al w_cl w_ie w_ww (0 : Int32) w_mm b9) := hD
      have hf := hf.trans (kE1 hw10)
      refine lv_iconst (v := 1) hx hb dX4_set_77 (by decide) ?_
      rw [← hQ]
      exact W.zret (v := bI true) (ty := .boolean) hx hb hr (bI_nar _) (fun t ht hW => ⟨⟨bI true, (w_zf, w_nf, w_hf, w_cf, w_sp, w_pc, (0 : Int32), b9), rfl, ⟨true, rfl, hf.symm⟩, by rw [ht]; exact hP, va_K.moved hW.alike hK, hD⟩, hS.F ht⟩) hS.2.2 dX4_set_78
    · have hf := hf.trans (kf_eq c8)
      by_cases c11 : a1 = (2 : Int32)
      · have hf := hf.trans (kt_eq c11)
        refine lv_tableIn (off := 60) (tgt := 66) hx hb dX4_set_6 (by rw [c11]; decide) (by rw [c11]; decide) (by rw [c11]; decide) (by decide) ?_
        refine lv_aload_n hx hb dX4_set_66 rfl (lv_at hl 0 rfl) ?_
        refine lv_iload_n hx hb dX4_set_67 rfl (lv_at hl 1 rfl) ?_
        refine lv_iconst (v := 1) hx hb dX4_set_68 (by decide) ?_
        refine lv_isub hx hb dX4_set_69 ?_
        refine lv_iload_n hx hb dX4_set_70 rfl (lv_at hl 2 rfl) ?_
        refine lv_ldc (v := 65535) hx hb hown (hws _ mw_61) dX4_set_71 ?_
        refine lv_iand hx hb dX4_set_73 ?_
        refine kc_Vv (wr := []) (As := [.int (a1 - (1 : Int32)), .int (a2 &&& (65535 : Int32))]) (rest := []) (fun u9 => (kX4 cB cI mo mb ma w_zf w_nf w_hf w_cf w_sp w_pc w_on w_wt w_ht w_bg w_cn w_al w_cl w_ie w_ww (0 : Int32) w_mm u9)) ⟨hx, hb, hml, hown, hws⟩ hK hP hD hS hA hT (c_X4_setPair l D cB cI mo mb ma H.size w_zf w_nf w_hf w_cf w_sp w_pc w_on w_wt w_ht w_bg w_cn w_al w_cl w_ie w_ww (0 : Int32) w_mm w_bs (a1 - (1 : Int32)) (a2 &&& (65535 : Int32)) (by rw [c11]; unfold vp_in; decide)) (cwV 2 hws (gw_V mw_454 mw_455 mw_456 mw_5 mw_457) rfl rfl rfl hdX4_setPair ⟨Nat.le_of_ble_eq_true rfl, Nat.le_of_ble_eq_true rfl⟩) [0, 1, 2] [] [0, 1] [0, 1, 2] rfl rfl rfl rfl (by decide) rfl (fun _ => rfl) rfl 0 rfl rfl rfl rfl hl.1 rfl (Nat.le_of_ble_eq_true rfl) dX4_set_74 ⟨Nat.zero_le _, Nat.zero_le _⟩ (fun b12 H locs hw13 hP hD hS => ?_)
        have hP : va_P D vwCl (kX4 cB cI mo mb ma w_zf w_nf w_hf w_cf w_sp w_pc w_on w_wt w_ht w_bg w_cn w_al w_cl w_ie w_ww (0 : Int32) w_mm b12) H := hP
        have hD : va_D A (kX4 cB cI mo mb ma w_zf w_nf w_hf w_cf w_sp w_pc w_on w_wt w_ht w_bg w_cn w_al w_cl w_ie w_ww (0 : Int32) w_mm b12) := hD
        have hf := hf.trans (kE1 hw13)
        refine lv_iconst (v := 1) hx hb dX4_set_77 (by decide) ?_
        rw [← hQ]
        exact W.zret (v := bI true) (ty := .boolean) hx hb hr (bI_nar _) (fun t ht hW => ⟨⟨bI true, (w_zf, w_nf, w_hf, w_cf, w_sp, w_pc, (0 : Int32), b12), rfl, ⟨true, rfl, hf.symm⟩, by rw [ht]; exact hP, va_K.moved hW.alike hK, hD⟩, hS.F ht⟩) hS.2.2 dX4_set_78
      · have hf := hf.trans (kf_eq c11)
        by_cases c14 : a1 = (3 : Int32)
        · have hf := hf.trans (kt_eq c14)
          refine lv_tableIn (off := 60) (tgt := 66) hx hb dX4_set_6 (by rw [c14]; decide) (by rw [c14]; decide) (by rw [c14]; decide) (by decide) ?_
          refine lv_aload_n hx hb dX4_set_66 rfl (lv_at hl 0 rfl) ?_
          refine lv_iload_n hx hb dX4_set_67 rfl (lv_at hl 1 rfl) ?_
          refine lv_iconst (v := 1) hx hb dX4_set_68 (by decide) ?_
          refine lv_isub hx hb dX4_set_69 ?_
          refine lv_iload_n hx hb dX4_set_70 rfl (lv_at hl 2 rfl) ?_
          refine lv_ldc (v := 65535) hx hb hown (hws _ mw_61) dX4_set_71 ?_
          refine lv_iand hx hb dX4_set_73 ?_
          refine kc_Vv (wr := []) (As := [.int (a1 - (1 : Int32)), .int (a2 &&& (65535 : Int32))]) (rest := []) (fun u9 => (kX4 cB cI mo mb ma w_zf w_nf w_hf w_cf w_sp w_pc w_on w_wt w_ht w_bg w_cn w_al w_cl w_ie w_ww (0 : Int32) w_mm u9)) ⟨hx, hb, hml, hown, hws⟩ hK hP hD hS hA hT (c_X4_setPair l D cB cI mo mb ma H.size w_zf w_nf w_hf w_cf w_sp w_pc w_on w_wt w_ht w_bg w_cn w_al w_cl w_ie w_ww (0 : Int32) w_mm w_bs (a1 - (1 : Int32)) (a2 &&& (65535 : Int32)) (by rw [c14]; unfold vp_in; decide)) (cwV 2 hws (gw_V mw_454 mw_455 mw_456 mw_5 mw_457) rfl rfl rfl hdX4_setPair ⟨Nat.le_of_ble_eq_true rfl, Nat.le_of_ble_eq_true rfl⟩) [0, 1, 2] [] [0, 1] [0, 1, 2] rfl rfl rfl rfl (by decide) rfl (fun _ => rfl) rfl 0 rfl rfl rfl rfl hl.1 rfl (Nat.le_of_ble_eq_true rfl) dX4_set_74 ⟨Nat.zero_le _, Nat.zero_le _⟩ (fun b15 H locs hw16 hP hD hS => ?_)
          have hP : va_P D vwCl (kX4 cB cI mo mb ma w_zf w_nf w_hf w_cf w_sp w_pc w_on w_wt w_ht w_bg w_cn w_al w_cl w_ie w_ww (0 : Int32) w_mm b15) H := hP
          have hD : va_D A (kX4 cB cI mo mb ma w_zf w_nf w_hf w_cf w_sp w_pc w_on w_wt w_ht w_bg w_cn w_al w_cl w_ie w_ww (0 : Int32) w_mm b15) := hD
          have hf := hf.trans (kE1 hw16)
          refine lv_iconst (v := 1) hx hb dX4_set_77 (by decide) ?_
          rw [← hQ]
          exact W.zret (v := bI true) (ty := .boolean) hx hb hr (bI_nar _) (fun t ht hW => ⟨⟨bI true, (w_zf, w_nf, w_hf, w_cf, w_sp, w_pc, (0 : Int32), b15), rfl, ⟨true, rfl, hf.symm⟩, by rw [ht]; exact hP, va_K.moved hW.alike hK, hD⟩, hS.F ht⟩) hS.2.2 dX4_set_78
        · have hf := hf.trans (kf_eq c14)
          by_cases c17 : a1 = (4 : Int32)
          · have hf := hf.trans (kt_eq c17)
            refine lv_tableIn (off := 73) (tgt := 79) hx hb dX4_set_6 (by rw [c17]; decide) (by rw [c17]; decide) (by rw [c17]; decide) (by decide) ?_
            refine lv_aload_n hx hb dX4_set_79 rfl (lv_at hl 0 rfl) ?_
            refine lv_iload_n hx hb dX4_set_80 rfl (lv_at hl 2 rfl) ?_
            refine lv_ldc (v := 65535) hx hb hown (hws _ mw_61) dX4_set_81 ?_
            refine lv_iand hx hb dX4_set_83 ?_
            refine lv_topi (fun x18 ex18 => ?_)
            have hf := hf.trans (kE1 ex18)
            refine va_put (D := D) (ci := 4) (v := .int x18) (ty := .int) (C := RX4) (T := TX4) (N := 18) hx hb hws inlX4 tyX4 tyX4_ok nmX4 hown hK hP hD hS 0 rfl rfl 6 (by decide) (hws _ mw_382) (fun _ h9 => h9) rfl (tyX4_ok 6 (by decide)) rfl rfl (Nat.le_of_ble_eq_true rfl) dX4_set_84 (fun H locs hP hD hS => ?_)
            have hP : va_P D vwCl (kX4 cB cI mo mb ma w_zf w_nf w_hf w_cf x18 w_pc w_on w_wt w_ht w_bg w_cn w_al w_cl w_ie w_ww (0 : Int32) w_mm w_bs) H := hP
            have hD : va_D A (kX4 cB cI mo mb ma w_zf w_nf w_hf w_cf x18 w_pc w_on w_wt w_ht w_bg w_cn w_al w_cl w_ie w_ww (0 : Int32) w_mm w_bs) := hD
            refine lv_iconst (v := 1) hx hb dX4_set_87 (by decide) ?_
            rw [← hQ]
            exact W.zret (v := bI true) (ty := .boolean) hx hb hr (bI_nar _) (fun t ht hW => ⟨⟨bI true, (w_zf, w_nf, w_hf, w_cf, x18, w_pc, (0 : Int32), w_bs), rfl, ⟨true, rfl, hf.symm⟩, by rw [ht]; exact hP, va_K.moved hW.alike hK, hD⟩, hS.F ht⟩) hS.2.2 dX4_set_88
          · have hf := hf.trans (kf_eq c17)
            by_cases c19 : a1 = (5 : Int32)
            · have hf := hf.trans (kt_eq c19)
              refine lv_tableIn (off := 83) (tgt := 89) hx hb dX4_set_6 (by rw [c19]; decide) (by rw [c19]; decide) (by rw [c19]; decide) (by decide) ?_
              refine lv_aload_n hx hb dX4_set_89 rfl (lv_at hl 0 rfl) ?_
              refine lv_iload_n hx hb dX4_set_90 rfl (lv_at hl 2 rfl) ?_
              refine lv_ldc (v := 65535) hx hb hown (hws _ mw_61) dX4_set_91 ?_
              refine lv_iand hx hb dX4_set_93 ?_
              refine lv_topi (fun x20 ex20 => ?_)
              have hf := hf.trans (kE1 ex20)
              refine va_put (D := D) (ci := 4) (v := .int x20) (ty := .int) (C := RX4) (T := TX4) (N := 18) hx hb hws inlX4 tyX4 tyX4_ok nmX4 hown hK hP hD hS 0 rfl rfl 7 (by decide) (hws _ mw_370) (fun _ h9 => h9) rfl (tyX4_ok 7 (by decide)) rfl rfl (Nat.le_of_ble_eq_true rfl) dX4_set_94 (fun H locs hP hD hS => ?_)
              have hP : va_P D vwCl (kX4 cB cI mo mb ma w_zf w_nf w_hf w_cf w_sp x20 w_on w_wt w_ht w_bg w_cn w_al w_cl w_ie w_ww (0 : Int32) w_mm w_bs) H := hP
              have hD : va_D A (kX4 cB cI mo mb ma w_zf w_nf w_hf w_cf w_sp x20 w_on w_wt w_ht w_bg w_cn w_al w_cl w_ie w_ww (0 : Int32) w_mm w_bs) := hD
              refine lv_iconst (v := 1) hx hb dX4_set_97 (by decide) ?_
              rw [← hQ]
              exact W.zret (v := bI true) (ty := .boolean) hx hb hr (bI_nar _) (fun t ht hW => ⟨⟨bI true, (w_zf, w_nf, w_hf, w_cf, w_sp, x20, (0 : Int32), w_bs), rfl, ⟨true, rfl, hf.symm⟩, by rw [ht]; exact hP, va_K.moved hW.alike hK, hD⟩, hS.F ht⟩) hS.2.2 dX4_set_98
            · have hf := hf.trans (kf_eq c19)
              refine lv_tableOut (tgt := 99) hx hb dX4_set_6 (by have n0 := lv_neT c1 (a := 0) rfl; have n1 := lv_neT c8 (a := 1) rfl; have n2 := lv_neT c11 (a := 2) rfl; have n3 := lv_neT c14 (a := 3) rfl; have n4 := lv_neT c17 (a := 4) rfl; have n5 := lv_neT c19 (a := 5) rfl; omega) (by decide) ?_
              refine lv_iconst (v := 0) hx hb dX4_set_99 (by decide) ?_
              rw [← hQ]
              exact W.zret (v := bI false) (ty := .boolean) hx hb hr (bI_nar _) (fun t ht hW => ⟨⟨bI false, (w_zf, w_nf, w_hf, w_cf, w_sp, w_pc, (0 : Int32), w_bs), rfl, ⟨false, rfl, hf.symm⟩, by rw [ht]; exact hP, va_K.moved hW.alike hK, hD⟩, hS.F ht⟩) hS.2.2 dX4_set_100
def fX4_look (w_on : Bool) (w_wt : Bool) (w_ht : Bool) (w_bg : Bool) (w_cn : Int32) (w_th : Int32) (a1 : Int32) : Int32 × Int32 := (kIf (kEq a1 (0 : Int32)) (kIf (kEq (bI w_on) (0 : Int32)) ((0 : Int32), (0 : Int32)) ((1 : Int32), (0 : Int32))) (kIf (kEq a1 (1 : Int32)) (kIf (kEq (bI w_wt) (0 : Int32)) ((0 : Int32), (0 : Int32)) ((1 : Int32), (0 : Int32))) (kIf (kEq a1 (2 : Int32)) (kIf (kEq (bI w_ht) (0 : Int32)) ((0 : Int32), (0 : Int32)) ((1 : Int32), (0 : Int32))) (kIf (kEq a1 (3 : Int32)) (kIf (kEq (bI w_bg) (0 : Int32)) ((0 : Int32), (0 : Int32)) ((1 : Int32), (0 : Int32))) (kIf (kEq a1 (4 : Int32)) (w_cn, (0 : Int32)) ((-1 : Int32), (0 : Int32)))))))
def rmX4_look : Room := { frames := 0, cells := 0, slots := 0, locals := 0 }
def wwX4_look : List Cond := Cond.code yX4_look cX4_look 2 (some .int) :: wsL_law
theorem hdX4_look : yX4_look.cls = RX4 ∧ yX4_look.cls ≠ "java/lang/invoke/MethodHandle" ∧ yX4_look.cls ≠ "java/lang/invoke/VarHandle" ∧ (parseMethodDescriptor yX4_look.desc).map (fun d => d.parameters.length) = some 1 := by decide +kernel
set_option maxHeartbeats 4000000 in
set_option maxRecDepth 100000 in
theorem c_X4_look (l : Launch) (D : va_G) (cB : ClassId) (cI : ClassId) (mo mb ma sz : Nat) (w_zf : Bool) (w_nf : Bool) (w_hf : Bool) (w_cf : Bool) (w_sp : Int32) (w_pc : Int32) (w_on : Bool) (w_wt : Bool) (w_ht : Bool) (w_bg : Bool) (w_cn : Int32) (w_al : Int32) (w_cl : Int32) (w_ie : Bool) (w_ww : Bool) (w_th : Int32) (w_mm : Nat → Int32) (w_bs : Nat → Int32) (a1 : Int32)  : Met l yX4_look wwX4_look rmX4_look (va_Pc [.ref mo, .int a1] (kp D (kX4 cB cI mo mb ma w_zf w_nf w_hf w_cf w_sp w_pc w_on w_wt w_ht w_bg w_cn w_al w_cl w_ie w_ww w_th w_mm w_bs) [(cB, .byte), (cI, .int)] sz)) (va_Qi (fun (r : Int32) (u9 : Int32) => (r, u9) = fX4_look w_on w_wt w_ht w_bg w_cn w_th a1) (fun u9 t => kq D (kX4 cB cI mo mb ma w_zf w_nf w_hf w_cf w_sp w_pc w_on w_wt w_ht w_bg w_cn w_al w_cl w_ie w_ww u9 w_mm w_bs) [(cB, .byte), (cI, .int)] (va_A (kX4 cB cI mo mb ma w_zf w_nf w_hf w_cf w_sp w_pc w_on w_wt w_ht w_bg w_cn w_al w_cl w_ie w_ww w_th w_mm w_bs) sz) t) (va_A (kX4 cB cI mo mb ma w_zf w_nf w_hf w_cf w_sp w_pc w_on w_wt w_ht w_bg w_cn w_al w_cl w_ie w_ww w_th w_mm w_bs) sz)) 0 0 (va_A (kX4 cB cI mo mb ma w_zf w_nf w_hf w_cf w_sp w_pc w_on w_wt w_ht w_bg w_cn w_al w_cl w_ie w_ww w_th w_mm w_bs) sz) := by
  refine Met.ofW (cc := cX4_look) (maxL := 2) (ret := (some .int)) (by decide) rfl ?_
  intro p e s m args below meth c s₁ B hml hv
  obtain ⟨rfl, hsz, hP, hK, hD0, hT⟩ := hv
  have hx := B.exec
  have hb := B.bytes
  have hr := B.returns
  have hts := atoms_spec (ws := wwX4_look) B.pre
  have hws : ∀ w ∈ wsL_law, w.before _ s = true := fun w h => hts w (List.mem_cons_of_mem _ h)
  have hown : s.vm.findClass RX4 = some m.cls := findClass_of_methodNamed B.named
  have hlocks := B.notSynchronized
  subst hsz
  have hD := hD0.self (sz := s.heap.size)
  generalize hAe : va_A (kX4 cB cI mo mb ma w_zf w_nf w_hf w_cf w_sp w_pc w_on w_wt w_ht w_bg w_cn w_al w_cl w_ie w_ww w_th w_mm w_bs) s.heap.size = A at hD hT ⊢
  have hA : ∀ q : Nat, s.heap.size ≤ q → A q := fun q h => by rw [← hAe]; exact Or.inr h
  have hS : va_S A s.heap s.heap [] := va_S.rf
  have hl := lv_entry ([.ref mo, .int a1]) (n := 2) (Nat.le_of_ble_eq_true rfl)
  rw [lg_entry_eq]
  generalize (lg_sl ([.ref mo, .int a1]) ++ List.replicate (2 - (lg_sl ([.ref mo, .int a1])).length) Slot.unset).toArray = ls at hl ⊢
  have hl : lv_has ls 2 [(0, .ref mo), (1, .int a1)] := hl
  generalize hQ : MQ _ _ _ _ _ _ _ = Q
  obtain ⟨H, hHe⟩ : ∃ H : Heap, H = s.heap := ⟨_, rfl⟩
  obtain ⟨locs, hle⟩ : ∃ L : List Loc, L = [] := ⟨_, rfl⟩
  have hP : va_P D vwCl (kX4 cB cI mo mb ma w_zf w_nf w_hf w_cf w_sp w_pc w_on w_wt w_ht w_bg w_cn w_al w_cl w_ie w_ww w_th w_mm w_bs) H := by rw [hHe]; exact hP
  have hS : va_S A s.heap H locs := by rw [hHe, hle]; exact hS
  refine kw_start hHe.symm hle.symm ?_
  have hf : fX4_look w_on w_wt w_ht w_bg w_cn w_th a1 = fX4_look w_on w_wt w_ht w_bg w_cn w_th a1 := rfl
  refine lv_aload_n hx hb dX4_look_0 rfl (lv_at hl 0 rfl) ?_
  refine lv_iconst (v := 0) hx hb dX4_look_1 (by decide) ?_
  refine va_put (D := D) (ci := 4) (v := .int (0 : Int32)) (ty := .int) (C := RX4) (T := TX4) (N := 18) hx hb hws inlX4 tyX4 tyX4_ok nmX4 hown hK hP hD hS 0 rfl rfl 17 (by decide) (hws _ mw_60) (fun _ h9 => h9) rfl (tyX4_ok 17 (by decide)) rfl rfl (Nat.le_of_ble_eq_true rfl) dX4_look_2 (fun H locs hP hD hS => ?_)
  have hP : va_P D vwCl (kX4 cB cI mo mb ma w_zf w_nf w_hf w_cf w_sp w_pc w_on w_wt w_ht w_bg w_cn w_al w_cl w_ie w_ww (0 : Int32) w_mm w_bs) H := hP
  have hD : va_D A (kX4 cB cI mo mb ma w_zf w_nf w_hf w_cf w_sp w_pc w_on w_wt w_ht w_bg w_cn w_al w_cl w_ie w_ww (0 : Int32) w_mm w_bs) := hD
  refine lv_iload_n hx hb dX4_look_5 rfl (lv_at hl 1 rfl) ?_
  by_cases c1 : a1 = (0 : Int32)
  · have hf := hf.trans (kt_eq c1)
    refine lv_tableIn (off := 34) (tgt := 40) hx hb dX4_look_6 (by rw [c1]; decide) (by rw [c1]; decide) (by rw [c1]; decide) (by decide) ?_
    refine lv_aload_n hx hb dX4_look_40 rfl (lv_at hl 0 rfl) ?_
    refine va_get (D := D) (ci := 4) (v := .int (bI w_on)) (C := RX4) (T := TX4) (N := 18) hx hb hws inlX4 hown hK hP 0 rfl rfl 8 (by decide) (hws _ mw_368) (fun _ h9 => h9) rfl dX4_look_41 ?_
    refine lv_if_eq (tgt := 51) hx hb dX4_look_44 (by decide) (fun c2 => ?_) (fun c2 => ?_)
    · have hf := hf.trans (kt_eq c2)
      refine lv_iconst (v := 0) hx hb dX4_look_51 (by decide) ?_
      rw [← hQ]
      exact W.iret (v := (0 : Int32)) hx hb hr (fun t ht hW => ⟨⟨(0 : Int32), (0 : Int32), rfl, hf.symm, by rw [ht]; exact hP, va_K.moved hW.alike hK, hD⟩, hS.F ht⟩) hS.2.2 dX4_look_52
    · have hf := hf.trans (kf_eq c2)
      refine lv_iconst (v := 1) hx hb dX4_look_47 (by decide) ?_
      refine lv_goto (tgt := 52) hx hb dX4_look_48 (by decide) ?_
      rw [← hQ]
      exact W.iret (v := (1 : Int32)) hx hb hr (fun t ht hW => ⟨⟨(1 : Int32), (0 : Int32), rfl, hf.symm, by rw [ht]; exact hP, va_K.moved hW.alike hK, hD⟩, hS.F ht⟩) hS.2.2 dX4_look_52
  · have hf := hf.trans (kf_eq c1)
    by_cases c3 : a1 = (1 : Int32)
    · have hf := hf.trans (kt_eq c3)
      refine lv_tableIn (off := 47) (tgt := 53) hx hb dX4_look_6 (by rw [c3]; decide) (by rw [c3]; decide) (by rw [c3]; decide) (by decide) ?_
      refine lv_aload_n hx hb dX4_look_53 rfl (lv_at hl 0 rfl) ?_
      refine va_get (D := D) (ci := 4) (v := .int (bI w_wt)) (C := RX4) (T := TX4) (N := 18) hx hb hws inlX4 hown hK hP 0 rfl rfl 9 (by decide) (hws _ mw_371) (fun _ h9 => h9) rfl dX4_look_54 ?_
      refine lv_if_eq (tgt := 64) hx hb dX4_look_57 (by decide) (fun c4 => ?_) (fun c4 => ?_)
      · have hf := hf.trans (kt_eq c4)
        refine lv_iconst (v := 0) hx hb dX4_look_64 (by decide) ?_
        rw [← hQ]
        exact W.iret (v := (0 : Int32)) hx hb hr (fun t ht hW => ⟨⟨(0 : Int32), (0 : Int32), rfl, hf.symm, by rw [ht]; exact hP, va_K.moved hW.alike hK, hD⟩, hS.F ht⟩) hS.2.2 dX4_look_65
      · have hf := hf.trans (kf_eq c4)
        refine lv_iconst (v := 1) hx hb dX4_look_60 (by decide) ?_
        refine lv_goto (tgt := 65) hx hb dX4_look_61 (by decide) ?_
        rw [← hQ]
        exact W.iret (v := (1 : Int32)) hx hb hr (fun t ht hW => ⟨⟨(1 : Int32), (0 : Int32), rfl, hf.symm, by rw [ht]; exact hP, va_K.moved hW.alike hK, hD⟩, hS.F ht⟩) hS.2.2 dX4_look_65
    · have hf := hf.trans (kf_eq c3)
      by_cases c5 : a1 = (2 : Int32)
      · have hf := hf.trans (kt_eq c5)
        refine lv_tableIn (off := 60) (tgt := 66) hx hb dX4_look_6 (by rw [c5]; decide) (by rw [c5]; decide) (by rw [c5]; decide) (by decide) ?_
        refine lv_aload_n hx hb dX4_look_66 rfl (lv_at hl 0 rfl) ?_
        refine va_get (D := D) (ci := 4) (v := .int (bI w_ht)) (C := RX4) (T := TX4) (N := 18) hx hb hws inlX4 hown hK hP 0 rfl rfl 10 (by decide) (hws _ mw_369) (fun _ h9 => h9) rfl dX4_look_67 ?_
        refine lv_if_eq (tgt := 77) hx hb dX4_look_70 (by decide) (fun c6 => ?_) (fun c6 => ?_)
        · have hf := hf.trans (kt_eq c6)
          refine lv_iconst (v := 0) hx hb dX4_look_77 (by decide) ?_
          rw [← hQ]
          exact W.iret (v := (0 : Int32)) hx hb hr (fun t ht hW => ⟨⟨(0 : Int32), (0 : Int32), rfl, hf.symm, by rw [ht]; exact hP, va_K.moved hW.alike hK, hD⟩, hS.F ht⟩) hS.2.2 dX4_look_78
        · have hf := hf.trans (kf_eq c6)
          refine lv_iconst (v := 1) hx hb dX4_look_73 (by decide) ?_
          refine lv_goto (tgt := 78) hx hb dX4_look_74 (by decide) ?_
          rw [← hQ]
          exact W.iret (v := (1 : Int32)) hx hb hr (fun t ht hW => ⟨⟨(1 : Int32), (0 : Int32), rfl, hf.symm, by rw [ht]; exact hP, va_K.moved hW.alike hK, hD⟩, hS.F ht⟩) hS.2.2 dX4_look_78
      · have hf := hf.trans (kf_eq c5)
        by_cases c7 : a1 = (3 : Int32)
        · have hf := hf.trans (kt_eq c7)
          refine lv_tableIn (off := 73) (tgt := 79) hx hb dX4_look_6 (by rw [c7]; decide) (by rw [c7]; decide) (by rw [c7]; decide) (by decide) ?_
          refine lv_aload_n hx hb dX4_look_79 rfl (lv_at hl 0 rfl) ?_
          refine va_get (D := D) (ci := 4) (v := .int (bI w_bg)) (C := RX4) (T := TX4) (N := 18) hx hb hws inlX4 hown hK hP 0 rfl rfl 11 (by decide) (hws _ mw_405) (fun _ h9 => h9) rfl dX4_look_80 ?_
          refine lv_if_eq (tgt := 90) hx hb dX4_look_83 (by decide) (fun c8 => ?_) (fun c8 => ?_)
          · have hf := hf.trans (kt_eq c8)
            refine lv_iconst (v := 0) hx hb dX4_look_90 (by decide) ?_
            rw [← hQ]
            exact W.iret (v := (0 : Int32)) hx hb hr (fun t ht hW => ⟨⟨(0 : Int32), (0 : Int32), rfl, hf.symm, by rw [ht]; exact hP, va_K.moved hW.alike hK, hD⟩, hS.F ht⟩) hS.2.2 dX4_look_91
          · have hf := hf.trans (kf_eq c8)
            refine lv_iconst (v := 1) hx hb dX4_look_86 (by decide) ?_
            refine lv_goto (tgt := 91) hx hb dX4_look_87 (by decide) ?_
            rw [← hQ]
            exact W.iret (v := (1 : Int32)) hx hb hr (fun t ht hW => ⟨⟨(1 : Int32), (0 : Int32), rfl, hf.symm, by rw [ht]; exact hP, va_K.moved hW.alike hK, hD⟩, hS.F ht⟩) hS.2.2 dX4_look_91
        · have hf := hf.trans (kf_eq c7)
          by_cases c9 : a1 = (4 : Int32)
          · have hf := hf.trans (kt_eq c9)
            refine lv_tableIn (off := 86) (tgt := 92) hx hb dX4_look_6 (by rw [c9]; decide) (by rw [c9]; decide) (by rw [c9]; decide) (by decide) ?_
            refine lv_aload_n hx hb dX4_look_92 rfl (lv_at hl 0 rfl) ?_
            refine va_get (D := D) (ci := 4) (v := .int w_cn) (C := RX4) (T := TX4) (N := 18) hx hb hws inlX4 hown hK hP 0 rfl rfl 12 (by decide) (hws _ mw_388) (fun _ h9 => h9) rfl dX4_look_93 ?_
            rw [← hQ]
            exact W.iret (v := w_cn) hx hb hr (fun t ht hW => ⟨⟨w_cn, (0 : Int32), rfl, hf.symm, by rw [ht]; exact hP, va_K.moved hW.alike hK, hD⟩, hS.F ht⟩) hS.2.2 dX4_look_96
          · have hf := hf.trans (kf_eq c9)
            refine lv_tableOut (tgt := 97) hx hb dX4_look_6 (by have n0 := lv_neT c1 (a := 0) rfl; have n1 := lv_neT c3 (a := 1) rfl; have n2 := lv_neT c5 (a := 2) rfl; have n3 := lv_neT c7 (a := 3) rfl; have n4 := lv_neT c9 (a := 4) rfl; omega) (by decide) ?_
            refine lv_iconst (v := -1) hx hb dX4_look_97 (by decide) ?_
            rw [← hQ]
            exact W.iret (v := (-1 : Int32)) hx hb hr (fun t ht hW => ⟨⟨(-1 : Int32), (0 : Int32), rfl, hf.symm, by rw [ht]; exact hP, va_K.moved hW.alike hK, hD⟩, hS.F ht⟩) hS.2.2 dX4_look_98
def fX4_mcycles (w_al : Int32) (w_th : Int32)  : Int32 × Int32 := (w_al, (0 : Int32))
def rmX4_mcycles : Room := { frames := 0, cells := 0, slots := 0, locals := 0 }
def wwX4_mcycles : List Cond := Cond.code yX4_mcycles cX4_mcycles 1 (some .int) :: wsL_law
theorem hdX4_mcycles : yX4_mcycles.cls = RX4 ∧ yX4_mcycles.cls ≠ "java/lang/invoke/MethodHandle" ∧ yX4_mcycles.cls ≠ "java/lang/invoke/VarHandle" ∧ (parseMethodDescriptor yX4_mcycles.desc).map (fun d => d.parameters.length) = some 0 := by decide +kernel
set_option maxHeartbeats 4000000 in
set_option maxRecDepth 100000 in
theorem c_X4_mcycles (l : Launch) (D : va_G) (cB : ClassId) (cI : ClassId) (mo mb ma sz : Nat) (w_zf : Bool) (w_nf : Bool) (w_hf : Bool) (w_cf : Bool) (w_sp : Int32) (w_pc : Int32) (w_on : Bool) (w_wt : Bool) (w_ht : Bool) (w_bg : Bool) (w_cn : Int32) (w_al : Int32) (w_cl : Int32) (w_ie : Bool) (w_ww : Bool) (w_th : Int32) (w_mm : Nat → Int32) (w_bs : Nat → Int32)   : Met l yX4_mcycles wwX4_mcycles rmX4_mcycles (va_Pc [.ref mo] (kp D (kX4 cB cI mo mb ma w_zf w_nf w_hf w_cf w_sp w_pc w_on w_wt w_ht w_bg w_cn w_al w_cl w_ie w_ww w_th w_mm w_bs) [(cB, .byte), (cI, .int)] sz)) (va_Qi (fun (r : Int32) (u9 : Int32) => (r, u9) = fX4_mcycles w_al w_th) (fun u9 t => kq D (kX4 cB cI mo mb ma w_zf w_nf w_hf w_cf w_sp w_pc w_on w_wt w_ht w_bg w_cn w_al w_cl w_ie w_ww u9 w_mm w_bs) [(cB, .byte), (cI, .int)] (va_A (kX4 cB cI mo mb ma w_zf w_nf w_hf w_cf w_sp w_pc w_on w_wt w_ht w_bg w_cn w_al w_cl w_ie w_ww w_th w_mm w_bs) sz) t) (va_A (kX4 cB cI mo mb ma w_zf w_nf w_hf w_cf w_sp w_pc w_on w_wt w_ht w_bg w_cn w_al w_cl w_ie w_ww w_th w_mm w_bs) sz)) 0 0 (va_A (kX4 cB cI mo mb ma w_zf w_nf w_hf w_cf w_sp w_pc w_on w_wt w_ht w_bg w_cn w_al w_cl w_ie w_ww w_th w_mm w_bs) sz) := by
  refine Met.ofW (cc := cX4_mcycles) (maxL := 1) (ret := (some .int)) (by decide) rfl ?_
  intro p e s m args below meth c s₁ B hml hv
  obtain ⟨rfl, hsz, hP, hK, hD0, hT⟩ := hv
  have hx := B.exec
  have hb := B.bytes
  have hr := B.returns
  have hts := atoms_spec (ws := wwX4_mcycles) B.pre
  have hws : ∀ w ∈ wsL_law, w.before _ s = true := fun w h => hts w (List.mem_cons_of_mem _ h)
  have hown : s.vm.findClass RX4 = some m.cls := findClass_of_methodNamed B.named
  have hlocks := B.notSynchronized
  subst hsz
  have hD := hD0.self (sz := s.heap.size)
  generalize hAe : va_A (kX4 cB cI mo mb ma w_zf w_nf w_hf w_cf w_sp w_pc w_on w_wt w_ht w_bg w_cn w_al w_cl w_ie w_ww w_th w_mm w_bs) s.heap.size = A at hD hT ⊢
  have hA : ∀ q : Nat, s.heap.size ≤ q → A q := fun q h => by rw [← hAe]; exact Or.inr h
  have hS : va_S A s.heap s.heap [] := va_S.rf
  have hl := lv_entry ([.ref mo]) (n := 1) (Nat.le_of_ble_eq_true rfl)
  rw [lg_entry_eq]
  generalize (lg_sl ([.ref mo]) ++ List.replicate (1 - (lg_sl ([.ref mo])).length) Slot.unset).toArray = ls at hl ⊢
  have hl : lv_has ls 1 [(0, .ref mo)] := hl
  generalize hQ : MQ _ _ _ _ _ _ _ = Q
  obtain ⟨H, hHe⟩ : ∃ H : Heap, H = s.heap := ⟨_, rfl⟩
  obtain ⟨locs, hle⟩ : ∃ L : List Loc, L = [] := ⟨_, rfl⟩
  have hP : va_P D vwCl (kX4 cB cI mo mb ma w_zf w_nf w_hf w_cf w_sp w_pc w_on w_wt w_ht w_bg w_cn w_al w_cl w_ie w_ww w_th w_mm w_bs) H := by rw [hHe]; exact hP
  have hS : va_S A s.heap H locs := by rw [hHe, hle]; exact hS
  refine kw_start hHe.symm hle.symm ?_
  have hf : fX4_mcycles w_al w_th = fX4_mcycles w_al w_th := rfl
  refine lv_aload_n hx hb dX4_mcycles_0 rfl (lv_at hl 0 rfl) ?_
  refine lv_iconst (v := 0) hx hb dX4_mcycles_1 (by decide) ?_
  refine va_put (D := D) (ci := 4) (v := .int (0 : Int32)) (ty := .int) (C := RX4) (T := TX4) (N := 18) hx hb hws inlX4 tyX4 tyX4_ok nmX4 hown hK hP hD hS 0 rfl rfl 17 (by decide) (hws _ mw_60) (fun _ h9 => h9) rfl (tyX4_ok 17 (by decide)) rfl rfl (Nat.le_of_ble_eq_true rfl) dX4_mcycles_2 (fun H locs hP hD hS => ?_)
  have hP : va_P D vwCl (kX4 cB cI mo mb ma w_zf w_nf w_hf w_cf w_sp w_pc w_on w_wt w_ht w_bg w_cn w_al w_cl w_ie w_ww (0 : Int32) w_mm w_bs) H := hP
  have hD : va_D A (kX4 cB cI mo mb ma w_zf w_nf w_hf w_cf w_sp w_pc w_on w_wt w_ht w_bg w_cn w_al w_cl w_ie w_ww (0 : Int32) w_mm w_bs) := hD
  refine lv_aload_n hx hb dX4_mcycles_5 rfl (lv_at hl 0 rfl) ?_
  refine va_get (D := D) (ci := 4) (v := .int w_al) (C := RX4) (T := TX4) (N := 18) hx hb hws inlX4 hown hK hP 0 rfl rfl 13 (by decide) (hws _ mw_396) (fun _ h9 => h9) rfl dX4_mcycles_6 ?_
  rw [← hQ]
  exact W.iret (v := w_al) hx hb hr (fun t ht hW => ⟨⟨w_al, (0 : Int32), rfl, hf.symm, by rw [ht]; exact hP, va_K.moved hW.alike hK, hD⟩, hS.F ht⟩) hS.2.2 dX4_mcycles_9
