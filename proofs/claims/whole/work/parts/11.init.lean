section KN
variable {p : Program} {l : Launch} {e : Env} {R : Room} {s : State} {m : MethodId} {args : Array Value} {below : List Frame} {meth : Method} {c : Code} {H : Heap} {locs : List Loc} {cells slots : Nat} {Q : State → Prop}
variable {D : va_G} {A : Nat → Prop} {ws wc wr : va_W} {tys : List (ClassId × FieldType)} {pc mc ms : Nat} {st0 rest : List Value} {ls : Array Slot}
/-- behind a constructor's call: the new world beside the rest -/
theorem kc_new {S : Type} {post : S → Prop} {wn : S → va_W} {tyn : S → List (ClassId × FieldType)} {a : Array Value} (hr : va_Run p l e R s m args below meth c H locs cells slots mc ms (F0 m pc ls st0) rest (va_Qv post (fun u t => kq D (wn u) (tyn u) (va_A wc H.size) t) (va_A wc H.size) a) (va_A wc H.size))
    (hK : va_K D vwCl tys s) (hP : va_P D vwCl ws H) (hD : va_D A ws) (hS : va_S A s.heap H locs) (hA : ∀ q, s.heap.size ≤ q → A q)
    (isC isR : List Nat) (hC : isC.map (fun i => ws[i]?) = wc.map some) (hR : isR.map (fun i => ws[i]?) = wr.map some) (hn : va_nd isR = true) (hdis : ∀ i ∈ isR, i ∉ isC)
    (kk : ∀ (u : S) (H1 : Heap) (locs1 : List Loc), post u → va_P D vwCl (wr ++ wn u) H1 → va_D A (wr ++ wn u) → va_K D vwCl (tys ++ tyn u) s → va_S A s.heap H1 locs1 → W p l e R s m args below meth c H1 locs1 (cells + mc) (slots + ms) Q (F0 m (pc + 3) ls rest)) : W p l e R s m args below meth c H locs cells slots Q (F0 m pc ls st0) := by
  have hFc := va_free hD hS hA isC hC
  refine va_callv hr hS (fun q _ h => hFc q h) hFc (fun u t H1 locs1 ht hvm hw hB hz1 hk1 hS1 => ?_)
  obtain ⟨hP1, hK1, hD1⟩ := hB
  rw [ht] at hP1
  have hK1 := va_K.moved hvm.symm hK1
  obtain ⟨hP2, hD2⟩ := va_join hP hD isC isR hC hR hn hdis hk1 hFc hP1 hD1
  exact kk u H1 locs1 hw hP2 hD2 (hK.app hK1) hS1
end KN
def rmX0_init : Room := { frames := 1, cells := 1, slots := 65536, locals := 20 }
def wwX0_init : List Cond := Cond.code yX0_init cX0_init 1 none :: wsL_law
theorem hdX0_init : yX0_init.cls ≠ "java/lang/invoke/MethodHandle" ∧ yX0_init.cls ≠ "java/lang/invoke/VarHandle" ∧ (parseMethodDescriptor yX0_init.desc).map (fun d => d.parameters.length) = some 0 := by decide +kernel
set_option maxHeartbeats 4000000 in
set_option maxRecDepth 100000 in
theorem c_X0_init (l : Launch) (D : va_G) (me sz : Nat) : Met l yX0_init wwX0_init rmX0_init (va_Pc [.ref me] (kp D [(me, .inr (0, [.null, .int 0]))] [] sz)) (va_Qv (fun (_ : ClassId × Nat) => True) (fun u9 t => kq D (kX0 u9.1 me u9.2 (fun _ => 0) 0) [(u9.1, .byte)] (va_A [(me, .inr (0, [.null, .int 0]))] sz) t) (va_A [(me, .inr (0, [.null, .int 0]))] sz)) 1 65536 (va_A [(me, .inr (0, [.null, .int 0]))] sz) := by
  refine Met.ofW (cc := cX0_init) (maxL := 1) (ret := none) (by decide) rfl ?_
  intro p e s m args below meth c s₁ B hml hv
  obtain ⟨rfl, hsz, hP, hK, hD0, hT⟩ := hv
  have hx := B.exec
  have hb := B.bytes
  have hr := B.returns
  have hts := atoms_spec (ws := wwX0_init) B.pre
  have hws : ∀ w ∈ wsL_law, w.before _ s = true := fun w h => hts w (List.mem_cons_of_mem _ h)
  have hown : s.vm.findClass RX0 = some m.cls := findClass_of_methodNamed B.named
  have hlocks := B.notSynchronized
  have hin : meth.name = "<init>" := (name_of_methodNamed B.named B.method).1
  subst hsz
  have hD := hD0.self (sz := s.heap.size)
  generalize hAe : va_A [(me, .inr (0, [.null, .int 0]))] s.heap.size = A at hD hT ⊢
  have hA : ∀ q : Nat, s.heap.size ≤ q → A q := fun q h => by rw [← hAe]; exact Or.inr h
  have hS : va_S A s.heap s.heap [] := va_S.rf
  have hl := lv_entry ([.ref me]) (n := 1) (Nat.le_of_ble_eq_true rfl)
  rw [lg_entry_eq]
  generalize (lg_sl ([.ref me]) ++ List.replicate (1 - (lg_sl ([.ref me])).length) Slot.unset).toArray = ls at hl ⊢
  have hl : lv_has ls 1 [(0, .ref me)] := hl
  refine lv_aload_n hx hb dX0_init_0 rfl (lv_at hl 0 rfl) ?_
  refine W.objInit hx hb hown (hws _ mw_23) (hws _ mw_10) (hws _ mw_11) rfl (by rw [hml]; exact hl.1) rfl dX0_init_1 (Nat.le_of_ble_eq_true rfl) (Nat.le_of_ble_eq_true rfl) ?_
  refine W.eq (g2 := F0 m 4 ls []) rfl ?_
  refine lv_aload_n hx hb dX0_init_4 rfl (lv_at hl 0 rfl) ?_
  refine lv_ldc (v := 65536) hx hb hown (hws _ mw_24) dX0_init_5 ?_
  refine va_newa (atype := .byte) (ty := .byte) (a0 := (65536, .inl (fun _ => 0))) (N' := 65536) hx hb (hws _ mw_25) rfl hK hP hD hS hA (fun _ => rfl) (by decide) (by decide) (by decide) (Nat.le_of_ble_eq_true rfl) (Nat.le_of_ble_eq_true rfl) dX0_init_7 (fun ba cB H hK hP hD hS => ?_)
  refine va_putF (D := D) (ci := 0) (v := .ref ba) (ty := .array .byte) (C := RX0) (T := TX0) (N := 2) hx hb hws inlX0 tyX0 tyX0_ok nmX0 hown hK hP hD hS 0 rfl rfl 0 (by decide) (hws _ mw_26) (fun _ h9 => h9) rfl hin rfl (tyX0_ok 0 (by decide)) rfl rfl (Nat.le_of_ble_eq_true rfl) dX0_init_9 (fun H locs hP hD hS => ?_)
  have hP : va_P D vwCl (kX0 cB me ba (fun _ => 0) 0) H := hP
  have hD : va_D A (kX0 cB me ba (fun _ => 0) 0) := hD
  refine W.widen (k := 1) (n := 65536) (by decide) (by decide) ?_
  exact W.vret hx hb hr (fun t ht hW => ⟨⟨(cB, ba), rfl, trivial, by rw [ht]; exact hP, va_K.moved hW.alike hK, hD⟩, hS.F ht⟩) hS.2.2 dX0_init_12
def rmX1_init : Room := { frames := 1, cells := 1, slots := 6, locals := 20 }
def wwX1_init : List Cond := Cond.code yX1_init cX1_init 1 none :: wsL_law
theorem hdX1_init : yX1_init.cls ≠ "java/lang/invoke/MethodHandle" ∧ yX1_init.cls ≠ "java/lang/invoke/VarHandle" ∧ (parseMethodDescriptor yX1_init.desc).map (fun d => d.parameters.length) = some 0 := by decide +kernel
set_option maxHeartbeats 4000000 in
set_option maxRecDepth 100000 in
theorem c_X1_init (l : Launch) (D : va_G) (rg sz : Nat) : Met l yX1_init wwX1_init rmX1_init (va_Pc [.ref rg] (kp D [(rg, .inr (1, [.null]))] [] sz)) (va_Qv (fun (_ : ClassId × Nat) => True) (fun u9 t => kq D (kX1 u9.1 rg u9.2 (fun _ => 0)) [(u9.1, .int)] (va_A [(rg, .inr (1, [.null]))] sz) t) (va_A [(rg, .inr (1, [.null]))] sz)) 1 6 (va_A [(rg, .inr (1, [.null]))] sz) := by
  refine Met.ofW (cc := cX1_init) (maxL := 1) (ret := none) (by decide) rfl ?_
  intro p e s m args below meth c s₁ B hml hv
  obtain ⟨rfl, hsz, hP, hK, hD0, hT⟩ := hv
  have hx := B.exec
  have hb := B.bytes
  have hr := B.returns
  have hts := atoms_spec (ws := wwX1_init) B.pre
  have hws : ∀ w ∈ wsL_law, w.before _ s = true := fun w h => hts w (List.mem_cons_of_mem _ h)
  have hown : s.vm.findClass RX1 = some m.cls := findClass_of_methodNamed B.named
  have hlocks := B.notSynchronized
  have hin : meth.name = "<init>" := (name_of_methodNamed B.named B.method).1
  subst hsz
  have hD := hD0.self (sz := s.heap.size)
  generalize hAe : va_A [(rg, .inr (1, [.null]))] s.heap.size = A at hD hT ⊢
  have hA : ∀ q : Nat, s.heap.size ≤ q → A q := fun q h => by rw [← hAe]; exact Or.inr h
  have hS : va_S A s.heap s.heap [] := va_S.rf
  have hl := lv_entry ([.ref rg]) (n := 1) (Nat.le_of_ble_eq_true rfl)
  rw [lg_entry_eq]
  generalize (lg_sl ([.ref rg]) ++ List.replicate (1 - (lg_sl ([.ref rg])).length) Slot.unset).toArray = ls at hl ⊢
  have hl : lv_has ls 1 [(0, .ref rg)] := hl
  refine lv_aload_n hx hb dX1_init_0 rfl (lv_at hl 0 rfl) ?_
  refine W.objInit hx hb hown (hws _ mw_36) (hws _ mw_10) (hws _ mw_11) rfl (by rw [hml]; exact hl.1) rfl dX1_init_1 (Nat.le_of_ble_eq_true rfl) (Nat.le_of_ble_eq_true rfl) ?_
  refine W.eq (g2 := F0 m 4 ls []) rfl ?_
  refine lv_aload_n hx hb dX1_init_4 rfl (lv_at hl 0 rfl) ?_
  refine lv_bipush (v := 6) hx hb dX1_init_5 (by decide) ?_
  refine va_newa (atype := .int) (ty := .int) (a0 := (6, .inl (fun _ => 0))) (N' := 6) hx hb (hws _ mw_37) rfl hK hP hD hS hA (fun _ => rfl) (by decide) (by decide) (by decide) (Nat.le_of_ble_eq_true rfl) (Nat.le_of_ble_eq_true rfl) dX1_init_7 (fun wa cI H hK hP hD hS => ?_)
  refine va_putF (D := D) (ci := 1) (v := .ref wa) (ty := .array .int) (C := RX1) (T := TX1) (N := 1) hx hb hws inlX1 tyX1 tyX1_ok nmX1 hown hK hP hD hS 0 rfl rfl 0 (by decide) (hws _ mw_38) (fun _ h9 => h9) rfl hin rfl (tyX1_ok 0 (by decide)) rfl rfl (Nat.le_of_ble_eq_true rfl) dX1_init_9 (fun H locs hP hD hS => ?_)
  have hP : va_P D vwCl (kX1 cI rg wa (fun _ => 0)) H := hP
  have hD : va_D A (kX1 cI rg wa (fun _ => 0)) := hD
  refine W.widen (k := 1) (n := 6) (by decide) (by decide) ?_
  exact W.vret hx hb hr (fun t ht hW => ⟨⟨(cI, wa), rfl, trivial, by rw [ht]; exact hP, va_K.moved hW.alike hK, hD⟩, hS.F ht⟩) hS.2.2 dX1_init_12
def rmX2_init : Room := { frames := 2, cells := 2, slots := 7, locals := 60 }
def wwX2_init : List Cond := Cond.code yX2_init cX2_init 1 none :: wsL_law
theorem hdX2_init : yX2_init.cls ≠ "java/lang/invoke/MethodHandle" ∧ yX2_init.cls ≠ "java/lang/invoke/VarHandle" ∧ (parseMethodDescriptor yX2_init.desc).map (fun d => d.parameters.length) = some 0 := by decide +kernel
set_option maxHeartbeats 4000000 in
set_option maxRecDepth 100000 in
theorem c_X2_init (l : Launch) (D : va_G) (sm sz : Nat) : Met l yX2_init wwX2_init rmX2_init (va_Pc [.ref sm] (kp D [(sm, .inr (2, [.null]))] [] sz)) (va_Qv (fun (_ : ClassId × Nat × Nat) => True) (fun u9 t => kq D (kX2 u9.1 sm u9.2.1 u9.2.2 (fun _ => 0)) [(u9.1, .int)] (va_A [(sm, .inr (2, [.null]))] sz) t) (va_A [(sm, .inr (2, [.null]))] sz)) 2 7 (va_A [(sm, .inr (2, [.null]))] sz) := by
  refine Met.ofW (cc := cX2_init) (maxL := 1) (ret := none) (by decide) rfl ?_
  intro p e s m args below meth c s₁ B hml hv
  obtain ⟨rfl, hsz, hP, hK, hD0, hT⟩ := hv
  have hx := B.exec
  have hb := B.bytes
  have hr := B.returns
  have hts := atoms_spec (ws := wwX2_init) B.pre
  have hws : ∀ w ∈ wsL_law, w.before _ s = true := fun w h => hts w (List.mem_cons_of_mem _ h)
  have hown : s.vm.findClass RX2 = some m.cls := findClass_of_methodNamed B.named
  have hlocks := B.notSynchronized
  have hin : meth.name = "<init>" := (name_of_methodNamed B.named B.method).1
  subst hsz
  have hD := hD0.self (sz := s.heap.size)
  generalize hAe : va_A [(sm, .inr (2, [.null]))] s.heap.size = A at hD hT ⊢
  have hA : ∀ q : Nat, s.heap.size ≤ q → A q := fun q h => by rw [← hAe]; exact Or.inr h
  have hS : va_S A s.heap s.heap [] := va_S.rf
  have hl := lv_entry ([.ref sm]) (n := 1) (Nat.le_of_ble_eq_true rfl)
  rw [lg_entry_eq]
  generalize (lg_sl ([.ref sm]) ++ List.replicate (1 - (lg_sl ([.ref sm])).length) Slot.unset).toArray = ls at hl ⊢
  have hl : lv_has ls 1 [(0, .ref sm)] := hl
  refine lv_aload_n hx hb dX2_init_0 rfl (lv_at hl 0 rfl) ?_
  refine W.objInit hx hb hown (hws _ mw_29) (hws _ mw_10) (hws _ mw_11) rfl (by rw [hml]; exact hl.1) rfl dX2_init_1 (Nat.le_of_ble_eq_true rfl) (Nat.le_of_ble_eq_true rfl) ?_
  refine W.eq (g2 := F0 m 4 ls []) rfl ?_
  refine lv_aload_n hx hb dX2_init_4 rfl (lv_at hl 0 rfl) ?_
  refine va_new (ci := 1) (fs := [.null]) (C := RX1) (T := TX1) (N := 1) hx hb hws inlX1 tyX1 tyX1_ok hown (hws _ mw_30) (hws _ mw_31) (hws _ mw_32) hK hP hD hS hA rfl (fun j hj => by rcases (show j = 0 by omega) with rfl <;> rfl) (Nat.le_of_ble_eq_true rfl) (Nat.le_of_ble_eq_true rfl) dX2_init_5 (fun rg H hP hD hS => ?_)
  have hP : va_P D vwCl [(sm, .inr (2, [.null])), (rg, .inr (1, [.null]))] H := hP
  have hD : va_D A [(sm, .inr (2, [.null])), (rg, .inr (1, [.null]))] := hD
  refine lv_dup hx hb dX2_init_8 rfl ?_
  refine kc_new (wr := [(sm, .inr (2, [.null]))]) (va_runIN (As := []) (rest := [.ref rg, .ref sm]) ⟨hx, hb, hml, hown, hws⟩ (c_X1_init l D rg H.size) ⟨va_cnB 0 hws (gw_I mw_35) rfl rfl rfl hT.1.2.2.1 (hws _ mw_32) hdX1_init ⟨Nat.le_of_ble_eq_true rfl, Nat.le_of_ble_eq_true rfl⟩, rfl, hws _ mw_34⟩ ⟨kp_blind _ _ _ _ _, kc_pre (isC := [1]) (isT := []) hK hP hD hS hA hT rfl rfl rfl _⟩ rfl rfl hl.1 rfl (lv_room (Nat.le_of_ble_eq_true rfl)) dX2_init_9 ⟨Nat.le_of_ble_eq_true rfl, Nat.le_of_ble_eq_true rfl⟩) hK hP hD hS hA [1] [0] rfl rfl rfl (by decide) (fun u9 H locs _ hP hD hK hS => ?_)
  obtain ⟨cI, wa⟩ := u9
  have hP : va_P D vwCl [(sm, .inr (2, [.null])), (rg, .inr (1, [.ref wa])), (wa, .inl (cI, 6, .inl (fun _ => 0)))] H := hP
  have hD : va_D A [(sm, .inr (2, [.null])), (rg, .inr (1, [.ref wa])), (wa, .inl (cI, 6, .inl (fun _ => 0)))] := hD
  refine va_putF (D := D) (ci := 2) (v := .ref rg) (ty := .object "GameCore$Registers") (C := RX2) (T := TX2) (N := 1) hx hb hws inlX2 tyX2 tyX2_ok nmX2 hown hK hP hD hS 0 rfl rfl 0 (by decide) (hws _ mw_33) (fun _ h9 => h9) rfl hin rfl (tyX2_ok 0 (by decide)) rfl rfl (Nat.le_of_ble_eq_true rfl) dX2_init_12 (fun H locs hP hD hS => ?_)
  have hP : va_P D vwCl (kX2 cI sm rg wa (fun _ => 0)) H := hP
  have hD : va_D A (kX2 cI sm rg wa (fun _ => 0)) := hD
  refine W.widen (k := 2) (n := 7) (by decide) (by decide) ?_
  exact W.vret hx hb hr (fun t ht hW => ⟨⟨(cI, rg, wa), rfl, trivial, by rw [ht]; exact hP, va_K.moved hW.alike hK, hD⟩, hS.F ht⟩) hS.2.2 dX2_init_15
def rmX3_init : Room := { frames := 3, cells := 5, slots := 65546, locals := 100 }
def wwX3_init : List Cond := Cond.code yX3_init cX3_init 1 none :: wsL_law
theorem hdX3_init : yX3_init.cls ≠ "java/lang/invoke/MethodHandle" ∧ yX3_init.cls ≠ "java/lang/invoke/VarHandle" ∧ (parseMethodDescriptor yX3_init.desc).map (fun d => d.parameters.length) = some 0 := by decide +kernel
set_option maxHeartbeats 4000000 in
set_option maxRecDepth 100000 in
theorem c_X3_init (l : Launch) (D : va_G) (gc sz : Nat) : Met l yX3_init wwX3_init rmX3_init (va_Pc [.ref gc] (kp D [(gc, .inr (3, [.null, .null, .null, .int 0, .int 0, .int 0, .int 0, .int 0]))] [] sz)) (va_Qv (fun (_ : ClassId × ClassId × Nat × Nat × Nat × Nat × Nat) => True) (fun u9 t => kq D (kX3 u9.1 u9.2.1 gc u9.2.2.1 u9.2.2.2.1 u9.2.2.2.2.1 u9.2.2.2.2.2.1 u9.2.2.2.2.2.2 false false false false 0 (fun _ => 0) 0 (fun _ => 0)) [(u9.1, .byte), (u9.2.1, .int)] (va_A [(gc, .inr (3, [.null, .null, .null, .int 0, .int 0, .int 0, .int 0, .int 0]))] sz) t) (va_A [(gc, .inr (3, [.null, .null, .null, .int 0, .int 0, .int 0, .int 0, .int 0]))] sz)) 5 65546 (va_A [(gc, .inr (3, [.null, .null, .null, .int 0, .int 0, .int 0, .int 0, .int 0]))] sz) := by
  refine Met.ofW (cc := cX3_init) (maxL := 1) (ret := none) (by decide) rfl ?_
  intro p e s m args below meth c s₁ B hml hv
  obtain ⟨rfl, hsz, hP, hK, hD0, hT⟩ := hv
  have hx := B.exec
  have hb := B.bytes
  have hr := B.returns
  have hts := atoms_spec (ws := wwX3_init) B.pre
  have hws : ∀ w ∈ wsL_law, w.before _ s = true := fun w h => hts w (List.mem_cons_of_mem _ h)
  have hown : s.vm.findClass RX3 = some m.cls := findClass_of_methodNamed B.named
  have hlocks := B.notSynchronized
  have hin : meth.name = "<init>" := (name_of_methodNamed B.named B.method).1
  subst hsz
  have hD := hD0.self (sz := s.heap.size)
  generalize hAe : va_A [(gc, .inr (3, [.null, .null, .null, .int 0, .int 0, .int 0, .int 0, .int 0]))] s.heap.size = A at hD hT ⊢
  have hA : ∀ q : Nat, s.heap.size ≤ q → A q := fun q h => by rw [← hAe]; exact Or.inr h
  have hS : va_S A s.heap s.heap [] := va_S.rf
  have hl := lv_entry ([.ref gc]) (n := 1) (Nat.le_of_ble_eq_true rfl)
  rw [lg_entry_eq]
  generalize (lg_sl ([.ref gc]) ++ List.replicate (1 - (lg_sl ([.ref gc])).length) Slot.unset).toArray = ls at hl ⊢
  have hl : lv_has ls 1 [(0, .ref gc)] := hl
  refine lv_aload_n hx hb dX3_init_0 rfl (lv_at hl 0 rfl) ?_
  refine W.objInit hx hb hown (hws _ mw_9) (hws _ mw_10) (hws _ mw_11) rfl (by rw [hml]; exact hl.1) rfl dX3_init_1 (Nat.le_of_ble_eq_true rfl) (Nat.le_of_ble_eq_true rfl) ?_
  refine W.eq (g2 := F0 m 4 ls []) rfl ?_
  refine lv_aload_n hx hb dX3_init_4 rfl (lv_at hl 0 rfl) ?_
  refine va_new (ci := 0) (fs := [.null, .int 0]) (C := RX0) (T := TX0) (N := 2) hx hb hws inlX0 tyX0 tyX0_ok hown (hws _ mw_12) (hws _ mw_13) (hws _ mw_14) hK hP hD hS hA rfl (fun j hj => by rcases (show j = 0 ∨ j = 1 by omega) with rfl | rfl <;> rfl) (Nat.le_of_ble_eq_true rfl) (Nat.le_of_ble_eq_true rfl) dX3_init_5 (fun me H hP hD hS => ?_)
  have hP : va_P D vwCl [(gc, .inr (3, [.null, .null, .null, .int 0, .int 0, .int 0, .int 0, .int 0])), (me, .inr (0, [.null, .int 0]))] H := hP
  have hD : va_D A [(gc, .inr (3, [.null, .null, .null, .int 0, .int 0, .int 0, .int 0, .int 0])), (me, .inr (0, [.null, .int 0]))] := hD
  refine lv_dup hx hb dX3_init_8 rfl ?_
  refine kc_new (wr := [(gc, .inr (3, [.null, .null, .null, .int 0, .int 0, .int 0, .int 0, .int 0]))]) (va_runIN (As := []) (rest := [.ref me, .ref gc]) ⟨hx, hb, hml, hown, hws⟩ (c_X0_init l D me H.size) ⟨va_cnB 0 hws (gw_I mw_22) rfl rfl rfl hT.1.1 (hws _ mw_14) hdX0_init ⟨Nat.le_of_ble_eq_true rfl, Nat.le_of_ble_eq_true rfl⟩, rfl, hws _ mw_21⟩ ⟨kp_blind _ _ _ _ _, kc_pre (isC := [1]) (isT := []) hK hP hD hS hA hT rfl rfl rfl _⟩ rfl rfl hl.1 rfl (lv_room (Nat.le_of_ble_eq_true rfl)) dX3_init_9 ⟨Nat.le_of_ble_eq_true rfl, Nat.le_of_ble_eq_true rfl⟩) hK hP hD hS hA [1] [0] rfl rfl rfl (by decide) (fun u9 H locs _ hP hD hK hS => ?_)
  obtain ⟨cB, ba⟩ := u9
  have hP : va_P D vwCl [(gc, .inr (3, [.null, .null, .null, .int 0, .int 0, .int 0, .int 0, .int 0])), (me, .inr (0, [.ref ba, .int 0])), (ba, .inl (cB, 65536, .inl (fun _ => 0)))] H := hP
  have hD : va_D A [(gc, .inr (3, [.null, .null, .null, .int 0, .int 0, .int 0, .int 0, .int 0])), (me, .inr (0, [.ref ba, .int 0])), (ba, .inl (cB, 65536, .inl (fun _ => 0)))] := hD
  refine va_putF (D := D) (ci := 3) (v := .ref me) (ty := .object "GameCore$Memory") (C := RX3) (T := TX3) (N := 8) hx hb hws inlX3 tyX3 tyX3_ok nmX3 hown hK hP hD hS 0 rfl rfl 0 (by decide) (hws _ mw_15) (fun _ h9 => h9) rfl hin rfl (tyX3_ok 0 (by decide)) rfl rfl (Nat.le_of_ble_eq_true rfl) dX3_init_12 (fun H locs hP hD hS => ?_)
  have hP : va_P D vwCl [(gc, .inr (3, [.ref me, .null, .null, .int 0, .int 0, .int 0, .int 0, .int 0])), (me, .inr (0, [.ref ba, .int 0])), (ba, .inl (cB, 65536, .inl (fun _ => 0)))] H := hP
  have hD : va_D A [(gc, .inr (3, [.ref me, .null, .null, .int 0, .int 0, .int 0, .int 0, .int 0])), (me, .inr (0, [.ref ba, .int 0])), (ba, .inl (cB, 65536, .inl (fun _ => 0)))] := hD
  refine lv_aload_n hx hb dX3_init_15 rfl (lv_at hl 0 rfl) ?_
  refine va_new (ci := 2) (fs := [.null]) (C := RX2) (T := TX2) (N := 1) hx hb hws inlX2 tyX2 tyX2_ok hown (hws _ mw_16) (hws _ mw_17) (hws _ mw_18) hK hP hD hS hA rfl (fun j hj => by rcases (show j = 0 by omega) with rfl <;> rfl) (Nat.le_of_ble_eq_true rfl) (Nat.le_of_ble_eq_true rfl) dX3_init_16 (fun sm H hP hD hS => ?_)
  have hP : va_P D vwCl [(gc, .inr (3, [.ref me, .null, .null, .int 0, .int 0, .int 0, .int 0, .int 0])), (me, .inr (0, [.ref ba, .int 0])), (ba, .inl (cB, 65536, .inl (fun _ => 0))), (sm, .inr (2, [.null]))] H := hP
  have hD : va_D A [(gc, .inr (3, [.ref me, .null, .null, .int 0, .int 0, .int 0, .int 0, .int 0])), (me, .inr (0, [.ref ba, .int 0])), (ba, .inl (cB, 65536, .inl (fun _ => 0))), (sm, .inr (2, [.null]))] := hD
  refine lv_dup hx hb dX3_init_19 rfl ?_
  refine kc_new (wr := [(gc, .inr (3, [.ref me, .null, .null, .int 0, .int 0, .int 0, .int 0, .int 0])), (me, .inr (0, [.ref ba, .int 0])), (ba, .inl (cB, 65536, .inl (fun _ => 0)))]) (va_runIN (As := []) (rest := [.ref sm, .ref gc]) ⟨hx, hb, hml, hown, hws⟩ (c_X2_init l D sm H.size) ⟨va_cnB 0 hws (gw_I mw_28) rfl rfl rfl hT.1.2.1 (hws _ mw_18) hdX2_init ⟨Nat.le_of_ble_eq_true rfl, Nat.le_of_ble_eq_true rfl⟩, rfl, hws _ mw_27⟩ ⟨kp_blind _ _ _ _ _, kc_pre (isC := [3]) (isT := []) hK hP hD hS hA hT rfl rfl rfl _⟩ rfl rfl hl.1 rfl (lv_room (Nat.le_of_ble_eq_true rfl)) dX3_init_20 ⟨Nat.le_of_ble_eq_true rfl, Nat.le_of_ble_eq_true rfl⟩) hK hP hD hS hA [3] [0, 1, 2] rfl rfl rfl (by decide) (fun u9 H locs _ hP hD hK hS => ?_)
  obtain ⟨cI, rg, wa⟩ := u9
  have hP : va_P D vwCl [(gc, .inr (3, [.ref me, .null, .null, .int 0, .int 0, .int 0, .int 0, .int 0])), (me, .inr (0, [.ref ba, .int 0])), (ba, .inl (cB, 65536, .inl (fun _ => 0))), (sm, .inr (2, [.ref rg])), (rg, .inr (1, [.ref wa])), (wa, .inl (cI, 6, .inl (fun _ => 0)))] H := hP
  have hD : va_D A [(gc, .inr (3, [.ref me, .null, .null, .int 0, .int 0, .int 0, .int 0, .int 0])), (me, .inr (0, [.ref ba, .int 0])), (ba, .inl (cB, 65536, .inl (fun _ => 0))), (sm, .inr (2, [.ref rg])), (rg, .inr (1, [.ref wa])), (wa, .inl (cI, 6, .inl (fun _ => 0)))] := hD
  refine va_putF (D := D) (ci := 3) (v := .ref sm) (ty := .object "GameCore$Sums") (C := RX3) (T := TX3) (N := 8) hx hb hws inlX3 tyX3 tyX3_ok nmX3 hown hK hP hD hS 0 rfl rfl 2 (by decide) (hws _ mw_19) (fun _ h9 => h9) rfl hin rfl (tyX3_ok 2 (by decide)) rfl rfl (Nat.le_of_ble_eq_true rfl) dX3_init_23 (fun H locs hP hD hS => ?_)
  have hP : va_P D vwCl [(gc, .inr (3, [.ref me, .null, .ref sm, .int 0, .int 0, .int 0, .int 0, .int 0])), (me, .inr (0, [.ref ba, .int 0])), (ba, .inl (cB, 65536, .inl (fun _ => 0))), (sm, .inr (2, [.ref rg])), (rg, .inr (1, [.ref wa])), (wa, .inl (cI, 6, .inl (fun _ => 0)))] H := hP
  have hD : va_D A [(gc, .inr (3, [.ref me, .null, .ref sm, .int 0, .int 0, .int 0, .int 0, .int 0])), (me, .inr (0, [.ref ba, .int 0])), (ba, .inl (cB, 65536, .inl (fun _ => 0))), (sm, .inr (2, [.ref rg])), (rg, .inr (1, [.ref wa])), (wa, .inl (cI, 6, .inl (fun _ => 0)))] := hD
  refine lv_aload_n hx hb dX3_init_26 rfl (lv_at hl 0 rfl) ?_
  refine lv_aload_n hx hb dX3_init_27 rfl (lv_at hl 0 rfl) ?_
  refine va_get (D := D) (ci := 3) (v := .ref sm) (C := RX3) (T := TX3) (N := 8) hx hb hws inlX3 hown hK hP 0 rfl rfl 2 (by decide) (hws _ mw_19) (fun _ h9 => h9) rfl dX3_init_28 ?_
  refine va_getN (D := D) (ci := 2) (v := .ref rg) (C := RX2) (T := TX2) (N := 1) hx hb hws inlX2 hown hK hP 3 rfl rfl 0 (by decide) (va_Nw.use (w := kx_n5) rfl hT.1.2.2.2.2.1) (fun _ h9 => h9) rfl dX3_init_31 ?_
  refine va_putF (D := D) (ci := 3) (v := .ref rg) (ty := .object "GameCore$Registers") (C := RX3) (T := TX3) (N := 8) hx hb hws inlX3 tyX3 tyX3_ok nmX3 hown hK hP hD hS 0 rfl rfl 1 (by decide) (hws _ mw_20) (fun _ h9 => h9) rfl hin rfl (tyX3_ok 1 (by decide)) rfl rfl (Nat.le_of_ble_eq_true rfl) dX3_init_34 (fun H locs hP hD hS => ?_)
  have hP := hP.sub (ws' := (kX3 cB cI gc me ba rg wa sm false false false false 0 (fun _ => 0) 0 (fun _ => 0))) [0, 1, 2, 4, 5, 3] rfl
  have hD := hD.sub (ws' := (kX3 cB cI gc me ba rg wa sm false false false false 0 (fun _ => 0) 0 (fun _ => 0))) [0, 1, 2, 4, 5, 3] rfl rfl
  refine W.widen (k := 5) (n := 65546) (by decide) (by decide) ?_
  exact W.vret hx hb hr (fun t ht hW => ⟨⟨(cB, cI, me, ba, rg, wa, sm), rfl, trivial, by rw [ht]; exact hP, va_K.moved hW.alike hK, hD⟩, hS.F ht⟩) hS.2.2 dX3_init_37
def rmX4_init : Room := { frames := 1, cells := 2, slots := 65544, locals := 20 }
def wwX4_init : List Cond := Cond.code yX4_init cX4_init 1 none :: wsL_law
theorem hdX4_init : yX4_init.cls ≠ "java/lang/invoke/MethodHandle" ∧ yX4_init.cls ≠ "java/lang/invoke/VarHandle" ∧ (parseMethodDescriptor yX4_init.desc).map (fun d => d.parameters.length) = some 0 := by decide +kernel
set_option maxHeartbeats 4000000 in
set_option maxRecDepth 100000 in
theorem c_X4_init (l : Launch) (D : va_G) (mo sz : Nat) : Met l yX4_init wwX4_init rmX4_init (va_Pc [.ref mo] (kp D [(mo, .inr (4, [.null, .null, .int 0, .int 0, .int 0, .int 0, .int 0, .int 0, .int 0, .int 0, .int 0, .int 0, .int 0, .int 0, .int 0, .int 0, .int 0, .int 0]))] [] sz)) (va_Qv (fun (_ : ClassId × ClassId × Nat × Nat) => True) (fun u9 t => kq D (kX4 u9.1 u9.2.1 mo u9.2.2.1 u9.2.2.2 false false false false 0 0 false false false false 0 0 0 false false 0 (fun _ => 0) (fun _ => 0)) [(u9.1, .byte), (u9.2.1, .int)] (va_A [(mo, .inr (4, [.null, .null, .int 0, .int 0, .int 0, .int 0, .int 0, .int 0, .int 0, .int 0, .int 0, .int 0, .int 0, .int 0, .int 0, .int 0, .int 0, .int 0]))] sz) t) (va_A [(mo, .inr (4, [.null, .null, .int 0, .int 0, .int 0, .int 0, .int 0, .int 0, .int 0, .int 0, .int 0, .int 0, .int 0, .int 0, .int 0, .int 0, .int 0, .int 0]))] sz)) 2 65544 (va_A [(mo, .inr (4, [.null, .null, .int 0, .int 0, .int 0, .int 0, .int 0, .int 0, .int 0, .int 0, .int 0, .int 0, .int 0, .int 0, .int 0, .int 0, .int 0, .int 0]))] sz) := by
  refine Met.ofW (cc := cX4_init) (maxL := 1) (ret := none) (by decide) rfl ?_
  intro p e s m args below meth c s₁ B hml hv
  obtain ⟨rfl, hsz, hP, hK, hD0, hT⟩ := hv
  have hx := B.exec
  have hb := B.bytes
  have hr := B.returns
  have hts := atoms_spec (ws := wwX4_init) B.pre
  have hws : ∀ w ∈ wsL_law, w.before _ s = true := fun w h => hts w (List.mem_cons_of_mem _ h)
  have hown : s.vm.findClass RX4 = some m.cls := findClass_of_methodNamed B.named
  have hlocks := B.notSynchronized
  have hin : meth.name = "<init>" := (name_of_methodNamed B.named B.method).1
  subst hsz
  have hD := hD0.self (sz := s.heap.size)
  generalize hAe : va_A [(mo, .inr (4, [.null, .null, .int 0, .int 0, .int 0, .int 0, .int 0, .int 0, .int 0, .int 0, .int 0, .int 0, .int 0, .int 0, .int 0, .int 0, .int 0, .int 0]))] s.heap.size = A at hD hT ⊢
  have hA : ∀ q : Nat, s.heap.size ≤ q → A q := fun q h => by rw [← hAe]; exact Or.inr h
  have hS : va_S A s.heap s.heap [] := va_S.rf
  have hl := lv_entry ([.ref mo]) (n := 1) (Nat.le_of_ble_eq_true rfl)
  rw [lg_entry_eq]
  generalize (lg_sl ([.ref mo]) ++ List.replicate (1 - (lg_sl ([.ref mo])).length) Slot.unset).toArray = ls at hl ⊢
  have hl : lv_has ls 1 [(0, .ref mo)] := hl
  refine lv_aload_n hx hb dX4_init_0 rfl (lv_at hl 0 rfl) ?_
  refine W.objInit hx hb hown (hws _ mw_42) (hws _ mw_10) (hws _ mw_11) rfl (by rw [hml]; exact hl.1) rfl dX4_init_1 (Nat.le_of_ble_eq_true rfl) (Nat.le_of_ble_eq_true rfl) ?_
  refine W.eq (g2 := F0 m 4 ls []) rfl ?_
  refine lv_aload_n hx hb dX4_init_4 rfl (lv_at hl 0 rfl) ?_
  refine lv_ldc (v := 65536) hx hb hown (hws _ mw_43) dX4_init_5 ?_
  refine va_newa (atype := .byte) (ty := .byte) (a0 := (65536, .inl (fun _ => 0))) (N' := 65536) hx hb (hws _ mw_25) rfl hK hP hD hS hA (fun _ => rfl) (by decide) (by decide) (by decide) (Nat.le_of_ble_eq_true rfl) (Nat.le_of_ble_eq_true rfl) dX4_init_7 (fun mb cB H hK hP hD hS => ?_)
  refine va_putF (D := D) (ci := 4) (v := .ref mb) (ty := .array .byte) (C := RX4) (T := TX4) (N := 18) hx hb hws inlX4 tyX4 tyX4_ok nmX4 hown hK hP hD hS 0 rfl rfl 0 (by decide) (hws _ mw_44) (fun _ h9 => h9) rfl hin rfl (tyX4_ok 0 (by decide)) rfl rfl (Nat.le_of_ble_eq_true rfl) dX4_init_9 (fun H locs hP hD hS => ?_)
  have hP : va_P D vwCl [(mo, .inr (4, [.ref mb, .null, .int 0, .int 0, .int 0, .int 0, .int 0, .int 0, .int 0, .int 0, .int 0, .int 0, .int 0, .int 0, .int 0, .int 0, .int 0, .int 0])), (mb, .inl (cB, 65536, .inl (fun _ => 0)))] H := hP
  have hD : va_D A [(mo, .inr (4, [.ref mb, .null, .int 0, .int 0, .int 0, .int 0, .int 0, .int 0, .int 0, .int 0, .int 0, .int 0, .int 0, .int 0, .int 0, .int 0, .int 0, .int 0])), (mb, .inl (cB, 65536, .inl (fun _ => 0)))] := hD
  refine lv_aload_n hx hb dX4_init_12 rfl (lv_at hl 0 rfl) ?_
  refine lv_bipush (v := 8) hx hb dX4_init_13 (by decide) ?_
  refine va_newa (atype := .int) (ty := .int) (a0 := (8, .inl (fun _ => 0))) (N' := 8) hx hb (hws _ mw_37) rfl hK hP hD hS hA (fun _ => rfl) (by decide) (by decide) (by decide) (Nat.le_of_ble_eq_true rfl) (Nat.le_of_ble_eq_true rfl) dX4_init_15 (fun ma cI H hK hP hD hS => ?_)
  refine va_putF (D := D) (ci := 4) (v := .ref ma) (ty := .array .int) (C := RX4) (T := TX4) (N := 18) hx hb hws inlX4 tyX4 tyX4_ok nmX4 hown hK hP hD hS 0 rfl rfl 1 (by decide) (hws _ mw_45) (fun _ h9 => h9) rfl hin rfl (tyX4_ok 1 (by decide)) rfl rfl (Nat.le_of_ble_eq_true rfl) dX4_init_17 (fun H locs hP hD hS => ?_)
  have hP : va_P D vwCl (kX4 cB cI mo mb ma false false false false 0 0 false false false false 0 0 0 false false 0 (fun _ => 0) (fun _ => 0)) H := hP
  have hD : va_D A (kX4 cB cI mo mb ma false false false false 0 0 false false false false 0 0 0 false false 0 (fun _ => 0) (fun _ => 0)) := hD
  refine W.widen (k := 2) (n := 65544) (by decide) (by decide) ?_
  exact W.vret hx hb hr (fun t ht hW => ⟨⟨(cB, cI, mb, ma), rfl, trivial, by rw [ht]; exact hP, va_K.moved hW.alike hK, hD⟩, hS.F ht⟩) hS.2.2 dX4_init_20
