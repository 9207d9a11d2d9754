/-! Base rows of mine: booleans, 'let' words, the tables that never change, one row a call. -/
def bI (z : Bool) : Int32 := match z with | true => 1 | false => 0
theorem bI_nar (z : Bool) : narrow .boolean (.int (bI z)) = .int (bI z) := by cases z <;> rfl
theorem bI_fit (z : Bool) : fits .boolean (.int (bI z)) = true := by cases z <;> rfl
theorem bI_0 (z : Bool) : bI z = 0 ↔ z = false := by cases z <;> decide
theorem bI_1 (z : Bool) : bI z = 1 ↔ z = true := by cases z <;> decide
theorem bI_inj {y z : Bool} : bI y = bI z ↔ y = z := by cases y <;> cases z <;> decide
/-- the tables of the class, as the Statement has them -/
def tb_mask : Nat → Int32 := fun j => if j = 0 then 255 else if j = 1 then 3 else if j = 2 then 15 else 63
def tb_list : List Int32 := [
  1, 3, 2, 2, 1, 1, 2, 1, 5, 2, 2, 2, 1, 1, 2, 1,
  0, 3, 2, 2, 1, 1, 2, 1, 2, 2, 2, 2, 1, 1, 2, 1,
  2, 3, 2, 2, 1, 1, 2, 1, 2, 2, 2, 2, 1, 1, 2, 1,
  2, 3, 2, 2, 3, 3, 3, 1, 2, 2, 2, 2, 1, 1, 2, 1,
  1, 1, 1, 1, 1, 1, 2, 1, 1, 1, 1, 1, 1, 1, 2, 1,
  1, 1, 1, 1, 1, 1, 2, 1, 1, 1, 1, 1, 1, 1, 2, 1,
  1, 1, 1, 1, 1, 1, 2, 1, 1, 1, 1, 1, 1, 1, 2, 1,
  2, 2, 2, 2, 2, 2, 1, 2, 1, 1, 1, 1, 1, 1, 2, 1,
  1, 1, 1, 1, 1, 1, 2, 1, 1, 1, 1, 1, 1, 1, 2, 1,
  1, 1, 1, 1, 1, 1, 2, 1, 1, 1, 1, 1, 1, 1, 2, 1,
  1, 1, 1, 1, 1, 1, 2, 1, 1, 1, 1, 1, 1, 1, 2, 1,
  1, 1, 1, 1, 1, 1, 2, 1, 1, 1, 1, 1, 1, 1, 2, 1,
  2, 3, 3, 3, 3, 4, 2, 4, 2, 4, 3, 2, 3, 3, 2, 4,
  2, 3, 3, 0, 3, 4, 2, 4, 2, 4, 3, 0, 3, 0, 2, 4,
  3, 3, 2, 0, 0, 4, 2, 4, 4, 1, 4, 0, 0, 0, 2, 4,
  3, 3, 2, 1, 0, 4, 2, 4, 3, 2, 4, 1, 0, 0, 2, 4]
def tb_base : Nat → Int32 := fun j => tb_list.getD j 0
def kx_n1 : Cond := .methodLinkNest RX3 9 yX0_init RX3
def kx_n2 : Cond := .methodLinkNest RX3 18 yX2_init RX3
def kx_n3 : Cond := .methodLinkNest RX2 11 yX1_init RX3
def kx_n4 : Cond := .fieldLinkNest RX3 71 RX0 "counter" "I" RX3
def kx_n5 : Cond := .fieldLinkNest RX3 23 RX2 "registers" "LGameCore$Registers;" RX3
def kx_n6 : Cond := .fieldLinkNest RX0 32 RX3 "TIMER_MASKS" "[I" RX3
/-- what stays: the links among nest mates; the two tables, apart from A -/
def kx (A : Nat → Prop) (U : State) : Prop := (va_Nw kx_n1 U ∧ va_Nw kx_n2 U ∧ va_Nw kx_n3 U ∧ va_Nw kx_n4 U ∧ va_Nw kx_n5 U ∧ va_Nw kx_n6 U) ∧
  (∃ t : Nat, va_Z "GameCore" "TIMER_MASKS" "[I" (.ref t) A U U.heap ∧ va_T .int t 4 (fun j => .int (tb_mask j)) A U U.heap) ∧ ∃ t : Nat, va_Z "GameCore" "BASE_CYCLES" "[I" (.ref t) A U U.heap ∧ va_T .int t 256 (fun j => .int (tb_base j)) A U U.heap
theorem kx_go {A B : Nat → Prop} {s U : State} {H : Heap} {locs : List Loc} (h : kx A s) (hS : va_S A s.heap H locs) (hF : ∀ q, B q → A q) (hU : U.heap = H) (hW : s.WarmedH U.vm) : kx B U := by
  obtain ⟨⟨a1, a2, a3, a4, a5, a6⟩, ⟨t, z, y⟩, t2, z2, y2⟩ := h
  subst hU
  exact ⟨⟨a1.warmM hW, a2.warmM hW, a3.warmM hW, a4.warmF hW, a5.warmF hW, a6.warmF hW⟩, ⟨t, ((z.kept hS.2.1).narrow hF).moved hW.alike, ((y.kept hS.2.1).narrow hF).moved hW.alike⟩, t2, ((z2.kept hS.2.1).narrow hF).moved hW.alike, ((y2.kept hS.2.1).narrow hF).moved hW.alike⟩
theorem kx_same {A : Nat → Prop} {u U : State} (h : kx A u) (hv : U.vm = u.vm) (hh : U.heap = u.heap) : kx A U := by
  obtain ⟨⟨a1, a2, a3, a4, a5, a6⟩, ⟨t, z, y⟩, t2, z2, y2⟩ := h
  have ha : u.vm.Alike U.vm := by rw [hv]; exact Vm.Alike.refl u.vm
  have hv := hv.symm
  refine ⟨⟨a1.same rfl hv, a2.same rfl hv, a3.same rfl hv, a4.same rfl hv, a5.same rfl hv, a6.same rfl hv⟩, ⟨t, ?_, ?_⟩, t2, ?_, ?_⟩
  · rw [hh]; exact z.moved ha
  · rw [hh]; exact y.moved ha
  · rw [hh]; exact z2.moved ha
  · rw [hh]; exact y2.moved ha
/-- a contract's start, and its end -/
def kp (D : va_G) (ws : va_W) (tys : List (ClassId × FieldType)) (sz : Nat) (U : State) : Prop := U.heap.size = sz ∧ va_P D vwCl ws U.heap ∧ va_K D vwCl tys U ∧ va_D (fun _ => True) ws ∧ kx (va_A ws sz) U
def kq (D : va_G) (ws : va_W) (tys : List (ClassId × FieldType)) (A : Nat → Prop) (t : State) : Prop := va_P D vwCl ws t.heap ∧ va_K D vwCl tys t ∧ va_D A ws
theorem kp_blind (av : List Value) (D : va_G) (ws : va_W) (tys : List (ClassId × FieldType)) (sz : Nat) : FrameBlind (va_Pc av (kp D ws tys sz)) := by
  intro a U g mk q
  obtain ⟨q0, q1, qP, qK, qD, qT⟩ := q
  exact ⟨q0, q1, qP, va_K.moved (u := U) (U := U.calling g mk a) (Vm.Alike.refl U.vm) qK, qD, kx_same qT rfl rfl⟩
section KC
variable {p : Program} {l : Launch} {e : Env} {R : Room} {s : State} {m : MethodId} {args : Array Value} {below : List Frame} {meth : Method} {c : Code} {H : Heap} {locs : List Loc} {cells slots : Nat} {Q : State → Prop}
variable {D : va_G} {A : Nat → Prop} {ws wc wr : va_W} {tys tyc : List (ClassId × FieldType)} {y : MethodName} {bytes cc : ByteArray} {maxL nL n index pc mc ms : Nat} {ret : Option FieldType} {wy Ts : List Cond} {rm : Room} {own C : String} {b : Addr} {As rest st0 : List Value} {ls : Array Slot}
theorem kc_pre (hK : va_K D vwCl tys s) (hP : va_P D vwCl ws H) (hD : va_D A ws) (hS : va_S A s.heap H locs) (hA : ∀ q, s.heap.size ≤ q → A q) (hT : kx A s) {isC isT : List Nat} (hC : isC.map (fun i => ws[i]?) = wc.map some) (hCn : va_nd isC = true) (hTy : isT.filterMap (fun i => tys[i]?) = tyc) (av : List Value) : ∀ U : State, U.heap = H → s.WarmedH U.vm → va_Pc av (kp D wc tyc H.size) av.toArray U := by
  intro U hU hW
  have hsub : isC.filterMap (fun i => ws[i]?) = wc := by
    have : isC.filterMap (fun i => ws[i]?) = (isC.map (fun i => ws[i]?)).filterMap id := by rw [List.filterMap_map]; rfl
    rw [this, hC, List.filterMap_map]
    exact List.filterMap_some
  have hPc := hP.sub isC hsub
  have hDc := hD.sub isC hCn hC
  have hKc := hK.sub isT hTy
  have hFc := va_free hD hS hA isC hC
  exact ⟨rfl, by rw [hU], by rw [hU]; exact hPc, va_K.moved hW.alike hKc, hDc.weaken (fun _ _ _ _ => trivial), kx_go hT hS hFc hU hW⟩
theorem kc_join {S : Type} {wn w2 : S → va_W} (hP : va_P D vwCl ws H) (hD : va_D A ws) (hS : va_S A s.heap H locs) (hA : ∀ q, s.heap.size ≤ q → A q) {isC isR pm : List Nat} (hC : isC.map (fun i => ws[i]?) = wc.map some) (hR : isR.map (fun i => ws[i]?) = wr.map some) (hn : va_nd isR = true) (hdis : ∀ i ∈ isR, i ∉ isC) (hpm : ∀ u, pm.map (fun i => (wr ++ wn u)[i]?) = (w2 u).map some) (hpn : va_nd pm = true) {H1 : Heap} (hk : ∀ q : Nat, q < H.size → ¬ va_A wc H.size q → H1[q]? = H[q]?) (u : S) (hP1 : va_P D vwCl (wn u) H1) (hD1 : va_D (va_A wc H.size) (wn u)) : va_P D vwCl (w2 u) H1 ∧ va_D A (w2 u) := by
  obtain ⟨hP, hD⟩ := va_join hP hD isC isR hC hR hn hdis hk (va_free hD hS hA isC hC) hP1 hD1
  have hsub : pm.filterMap (fun i => (wr ++ wn u)[i]?) = w2 u := by
    have : pm.filterMap (fun i => (wr ++ wn u)[i]?) = (pm.map (fun i => (wr ++ wn u)[i]?)).filterMap id := by rw [List.filterMap_map]; rfl
    rw [this, hpm u, List.filterMap_map]
    exact List.filterMap_some
  exact ⟨hP.sub pm hsub, hD.sub pm hpn (hpm u)⟩
/-- a call of an instance method that answers an int -/
theorem kc_Vi {S : Type} {post : Int32 → S → Prop} {wn : S → va_W} (w2 : S → va_W) (S0 : CallFix p m c cc nL s args Ts own) (hK : va_K D vwCl tys s) (hP : va_P D vwCl ws H) (hD : va_D A ws) (hS : va_S A s.heap H locs) (hA : ∀ q, s.heap.size ≤ q → A q) (hT : kx A s)
    (hM : Met l y wy rm (va_Pc (.ref b :: As) (kp D wc tyc H.size)) (va_Qi post (fun u t => kq D (wn u) tyc (va_A wc H.size) t) (va_A wc H.size)) 0 0 (va_A wc H.size)) (cw : CallW R s args own C index y bytes maxL ret wy rm 0 0 n)
    (isC isR isT pm : List Nat) (hC : isC.map (fun i => ws[i]?) = wc.map some) (hCn : va_nd isC = true) (hR : isR.map (fun i => ws[i]?) = wr.map some) (hn : va_nd isR = true) (hdis : ∀ i ∈ isR, i ∉ isC) (hTy : isT.filterMap (fun i => tys[i]?) = tyc) (hpm : ∀ u, pm.map (fun i => (wr ++ wn u)[i]?) = (w2 u).map some) (hpn : va_nd pm = true)
    (q0 : Nat) {ci : Nat} {q : vw_C} {fs : List Value} (hcq : vwCl[ci]? = some q) (hq : q.1 = C) (hb0 : ws[q0]? = some (b, .inr (ci, fs)))
    (hlen : As.length = n) (hsize : ls.size = nL) (hstk : st0 = As.reverse ++ .ref b :: rest) (hW : (rest.map fun v => v.category).sum ≤ 8) (hdg : decode cc pc = .ok (.invokevirtual index, 3)) (hf : cells ≤ R.cells ∧ slots ≤ R.slots)
    (kk : ∀ (r : Int32) (u : S) (H1 : Heap) (locs1 : List Loc), post r u → va_P D vwCl (w2 u) H1 → va_D A (w2 u) → va_S A s.heap H1 locs1 → W p l e R s m args below meth c H1 locs1 cells slots Q (F0 m (pc + 3) ls (.int r :: rest))) : W p l e R s m args below meth c H locs cells slots Q (F0 m pc ls st0) := by
  subst hq
  have hFc := va_free hD hS hA isC hC
  refine va_calli (va_runV S0 hM cw ⟨kp_blind _ _ _ _ _, va_recv hK hP hcq hb0, kc_pre hK hP hD hS hA hT hC hCn hTy _⟩ rfl hlen hsize hstk (lv_room hW) hdg hf) hS (fun q _ h => hFc q h) hFc (fun r u t H1 locs1 ht hvm hw hB hz1 hk1 hS1 => ?_)
  obtain ⟨hP1, -, hD1⟩ := hB
  rw [ht] at hP1
  obtain ⟨hP2, hD2⟩ := kc_join hP hD hS hA hC hR hn hdis hpm hpn hk1 u hP1 hD1
  exact kk r u H1 locs1 hw hP2 hD2 hS1
/-- a call of an instance method that answers nothing -/
theorem kc_Vv {S : Type} {post : S → Prop} {wn : S → va_W} (w2 : S → va_W) (S0 : CallFix p m c cc nL s args Ts own) (hK : va_K D vwCl tys s) (hP : va_P D vwCl ws H) (hD : va_D A ws) (hS : va_S A s.heap H locs) (hA : ∀ q, s.heap.size ≤ q → A q) (hT : kx A s)
    (hM : Met l y wy rm (va_Pc (.ref b :: As) (kp D wc tyc H.size)) (va_Qv post (fun u t => kq D (wn u) tyc (va_A wc H.size) t) (va_A wc H.size)) 0 0 (va_A wc H.size)) (cw : CallW R s args own C index y bytes maxL ret wy rm 0 0 n)
    (isC isR isT pm : List Nat) (hC : isC.map (fun i => ws[i]?) = wc.map some) (hCn : va_nd isC = true) (hR : isR.map (fun i => ws[i]?) = wr.map some) (hn : va_nd isR = true) (hdis : ∀ i ∈ isR, i ∉ isC) (hTy : isT.filterMap (fun i => tys[i]?) = tyc) (hpm : ∀ u, pm.map (fun i => (wr ++ wn u)[i]?) = (w2 u).map some) (hpn : va_nd pm = true)
    (q0 : Nat) {ci : Nat} {q : vw_C} {fs : List Value} (hcq : vwCl[ci]? = some q) (hq : q.1 = C) (hb0 : ws[q0]? = some (b, .inr (ci, fs)))
    (hlen : As.length = n) (hsize : ls.size = nL) (hstk : st0 = As.reverse ++ .ref b :: rest) (hW : (rest.map fun v => v.category).sum ≤ 8) (hdg : decode cc pc = .ok (.invokevirtual index, 3)) (hf : cells ≤ R.cells ∧ slots ≤ R.slots)
    (kk : ∀ (u : S) (H1 : Heap) (locs1 : List Loc), post u → va_P D vwCl (w2 u) H1 → va_D A (w2 u) → va_S A s.heap H1 locs1 → W p l e R s m args below meth c H1 locs1 cells slots Q (F0 m (pc + 3) ls rest)) : W p l e R s m args below meth c H locs cells slots Q (F0 m pc ls st0) := by
  subst hq
  have hFc := va_free hD hS hA isC hC
  refine va_callv (va_runV S0 hM cw ⟨kp_blind _ _ _ _ _, va_recv hK hP hcq hb0, kc_pre hK hP hD hS hA hT hC hCn hTy _⟩ rfl hlen hsize hstk (lv_room hW) hdg hf) hS (fun q _ h => hFc q h) hFc (fun u t H1 locs1 ht hvm hw hB hz1 hk1 hS1 => ?_)
  obtain ⟨hP1, -, hD1⟩ := hB
  rw [ht] at hP1
  obtain ⟨hP2, hD2⟩ := kc_join hP hD hS hA hC hR hn hdis hpm hpn hk1 u hP1 hD1
  exact kk u H1 locs1 hw hP2 hD2 hS1
/-- a call of a static method of numbers alone that answers an int -/
theorem kc_Si {post : Int32 → Unit → Prop} (S0 : CallFix p m c cc nL s args Ts own) (hK : va_K D vwCl tys s) (hP : va_P D vwCl ws H) (hD : va_D A ws) (hS : va_S A s.heap H locs) (hA : ∀ q, s.heap.size ≤ q → A q) (hT : kx A s)
    (hM : Met l y wy rm (va_Pc As (kp D [] [] H.size)) (va_Qi post (fun _ t => kq D [] [] (va_A [] H.size) t) (va_A [] H.size)) 0 0 (va_A [] H.size)) (cw : CallB R s args own index y bytes maxL ret wy rm 0 0 n ∧ (Cond.static y).before args s = true)
    (hlen : As.length = n) (hsize : ls.size = nL) (hstk : st0 = As.reverse ++ rest) (hW : (rest.map fun v => v.category).sum ≤ 8) (hdg : decode cc pc = .ok (.invokestatic index, 3)) (hf : cells ≤ R.cells ∧ slots ≤ R.slots)
    (kk : ∀ (r : Int32) (H1 : Heap) (locs1 : List Loc), post r () → va_P D vwCl ws H1 → va_D A ws → va_S A s.heap H1 locs1 → W p l e R s m args below meth c H1 locs1 cells slots Q (F0 m (pc + 3) ls (.int r :: rest))) : W p l e R s m args below meth c H locs cells slots Q (F0 m pc ls st0) := by
  have hFc : ∀ q, va_A [] H.size q → A q := va_free (wc := []) hD hS hA [] rfl
  refine va_calli (va_runS S0 hM cw ⟨kp_blind _ _ _ _ _, kc_pre (wc := []) (tyc := []) (isC := []) (isT := []) hK hP hD hS hA hT rfl rfl rfl _⟩ rfl hlen hsize hstk (lv_room hW) hdg hf) hS (fun q _ h => hFc q h) hFc (fun r u t H1 locs1 ht hvm hw hB hz1 hk1 hS1 => ?_)
  have hP1 : va_P D vwCl ws H1 := hP.kept (fun k q hq => by
    have hlt : q.1 < H.size := (hP k q hq).lt
    refine hk1 q.1 hlt ?_
    intro h
    rcases h with ⟨k2, e2, h2⟩ | h2
    · simp at h2
    · omega)
  exact kk r H1 locs1 hw hP1 hD hS1
end KC
/-- 'let' words of the pictures -/
def kU1 {T1 Z : Type} (u : T1) (k : T1 → Z) : Z := k u
theorem kE1 {T1 Z : Type} {u : T1} {k : T1 → Z} {x1 : T1} (h : x1 = u) : kU1 u k = k x1 := by subst h; rfl
def kU2 {T1 T2 Z : Type} (u : T1 × T2) (k : T1 → T2 → Z) : Z := k u.1 u.2
theorem kE2 {T1 T2 Z : Type} {u : T1 × T2} {k : T1 → T2 → Z} {x1 : T1} {x2 : T2} (h : (x1, x2) = u) : kU2 u k = k x1 x2 := by subst h; rfl
def kU3 {T1 T2 T3 Z : Type} (u : T1 × T2 × T3) (k : T1 → T2 → T3 → Z) : Z := k u.1 u.2.1 u.2.2
theorem kE3 {T1 T2 T3 Z : Type} {u : T1 × T2 × T3} {k : T1 → T2 → T3 → Z} {x1 : T1} {x2 : T2} {x3 : T3} (h : (x1, x2, x3) = u) : kU3 u k = k x1 x2 x3 := by subst h; rfl
def kU4 {T1 T2 T3 T4 Z : Type} (u : T1 × T2 × T3 × T4) (k : T1 → T2 → T3 → T4 → Z) : Z := k u.1 u.2.1 u.2.2.1 u.2.2.2
theorem kE4 {T1 T2 T3 T4 Z : Type} {u : T1 × T2 × T3 × T4} {k : T1 → T2 → T3 → T4 → Z} {x1 : T1} {x2 : T2} {x3 : T3} {x4 : T4} (h : (x1, x2, x3, x4) = u) : kU4 u k = k x1 x2 x3 x4 := by subst h; rfl
def kU5 {T1 T2 T3 T4 T5 Z : Type} (u : T1 × T2 × T3 × T4 × T5) (k : T1 → T2 → T3 → T4 → T5 → Z) : Z := k u.1 u.2.1 u.2.2.1 u.2.2.2.1 u.2.2.2.2
theorem kE5 {T1 T2 T3 T4 T5 Z : Type} {u : T1 × T2 × T3 × T4 × T5} {k : T1 → T2 → T3 → T4 → T5 → Z} {x1 : T1} {x2 : T2} {x3 : T3} {x4 : T4} {x5 : T5} (h : (x1, x2, x3, x4, x5) = u) : kU5 u k = k x1 x2 x3 x4 x5 := by subst h; rfl
def kU6 {T1 T2 T3 T4 T5 T6 Z : Type} (u : T1 × T2 × T3 × T4 × T5 × T6) (k : T1 → T2 → T3 → T4 → T5 → T6 → Z) : Z := k u.1 u.2.1 u.2.2.1 u.2.2.2.1 u.2.2.2.2.1 u.2.2.2.2.2
theorem kE6 {T1 T2 T3 T4 T5 T6 Z : Type} {u : T1 × T2 × T3 × T4 × T5 × T6} {k : T1 → T2 → T3 → T4 → T5 → T6 → Z} {x1 : T1} {x2 : T2} {x3 : T3} {x4 : T4} {x5 : T5} {x6 : T6} (h : (x1, x2, x3, x4, x5, x6) = u) : kU6 u k = k x1 x2 x3 x4 x5 x6 := by subst h; rfl
def kU7 {T1 T2 T3 T4 T5 T6 T7 Z : Type} (u : T1 × T2 × T3 × T4 × T5 × T6 × T7) (k : T1 → T2 → T3 → T4 → T5 → T6 → T7 → Z) : Z := k u.1 u.2.1 u.2.2.1 u.2.2.2.1 u.2.2.2.2.1 u.2.2.2.2.2.1 u.2.2.2.2.2.2
theorem kE7 {T1 T2 T3 T4 T5 T6 T7 Z : Type} {u : T1 × T2 × T3 × T4 × T5 × T6 × T7} {k : T1 → T2 → T3 → T4 → T5 → T6 → T7 → Z} {x1 : T1} {x2 : T2} {x3 : T3} {x4 : T4} {x5 : T5} {x6 : T6} {x7 : T7} (h : (x1, x2, x3, x4, x5, x6, x7) = u) : kU7 u k = k x1 x2 x3 x4 x5 x6 x7 := by subst h; rfl
def kU8 {T1 T2 T3 T4 T5 T6 T7 T8 Z : Type} (u : T1 × T2 × T3 × T4 × T5 × T6 × T7 × T8) (k : T1 → T2 → T3 → T4 → T5 → T6 → T7 → T8 → Z) : Z := k u.1 u.2.1 u.2.2.1 u.2.2.2.1 u.2.2.2.2.1 u.2.2.2.2.2.1 u.2.2.2.2.2.2.1 u.2.2.2.2.2.2.2
theorem kE8 {T1 T2 T3 T4 T5 T6 T7 T8 Z : Type} {u : T1 × T2 × T3 × T4 × T5 × T6 × T7 × T8} {k : T1 → T2 → T3 → T4 → T5 → T6 → T7 → T8 → Z} {x1 : T1} {x2 : T2} {x3 : T3} {x4 : T4} {x5 : T5} {x6 : T6} {x7 : T7} {x8 : T8} (h : (x1, x2, x3, x4, x5, x6, x7, x8) = u) : kU8 u k = k x1 x2 x3 x4 x5 x6 x7 x8 := by subst h; rfl
def kU9 {T1 T2 T3 T4 T5 T6 T7 T8 T9 Z : Type} (u : T1 × T2 × T3 × T4 × T5 × T6 × T7 × T8 × T9) (k : T1 → T2 → T3 → T4 → T5 → T6 → T7 → T8 → T9 → Z) : Z := k u.1 u.2.1 u.2.2.1 u.2.2.2.1 u.2.2.2.2.1 u.2.2.2.2.2.1 u.2.2.2.2.2.2.1 u.2.2.2.2.2.2.2.1 u.2.2.2.2.2.2.2.2
theorem kE9 {T1 T2 T3 T4 T5 T6 T7 T8 T9 Z : Type} {u : T1 × T2 × T3 × T4 × T5 × T6 × T7 × T8 × T9} {k : T1 → T2 → T3 → T4 → T5 → T6 → T7 → T8 → T9 → Z} {x1 : T1} {x2 : T2} {x3 : T3} {x4 : T4} {x5 : T5} {x6 : T6} {x7 : T7} {x8 : T8} {x9 : T9} (h : (x1, x2, x3, x4, x5, x6, x7, x8, x9) = u) : kU9 u k = k x1 x2 x3 x4 x5 x6 x7 x8 x9 := by subst h; rfl
def kU10 {T1 T2 T3 T4 T5 T6 T7 T8 T9 T10 Z : Type} (u : T1 × T2 × T3 × T4 × T5 × T6 × T7 × T8 × T9 × T10) (k : T1 → T2 → T3 → T4 → T5 → T6 → T7 → T8 → T9 → T10 → Z) : Z := k u.1 u.2.1 u.2.2.1 u.2.2.2.1 u.2.2.2.2.1 u.2.2.2.2.2.1 u.2.2.2.2.2.2.1 u.2.2.2.2.2.2.2.1 u.2.2.2.2.2.2.2.2.1 u.2.2.2.2.2.2.2.2.2
theorem kE10 {T1 T2 T3 T4 T5 T6 T7 T8 T9 T10 Z : Type} {u : T1 × T2 × T3 × T4 × T5 × T6 × T7 × T8 × T9 × T10} {k : T1 → T2 → T3 → T4 → T5 → T6 → T7 → T8 → T9 → T10 → Z} {x1 : T1} {x2 : T2} {x3 : T3} {x4 : T4} {x5 : T5} {x6 : T6} {x7 : T7} {x8 : T8} {x9 : T9} {x10 : T10} (h : (x1, x2, x3, x4, x5, x6, x7, x8, x9, x10) = u) : kU10 u k = k x1 x2 x3 x4 x5 x6 x7 x8 x9 x10 := by subst h; rfl
def kU11 {T1 T2 T3 T4 T5 T6 T7 T8 T9 T10 T11 Z : Type} (u : T1 × T2 × T3 × T4 × T5 × T6 × T7 × T8 × T9 × T10 × T11) (k : T1 → T2 → T3 → T4 → T5 → T6 → T7 → T8 → T9 → T10 → T11 → Z) : Z := k u.1 u.2.1 u.2.2.1 u.2.2.2.1 u.2.2.2.2.1 u.2.2.2.2.2.1 u.2.2.2.2.2.2.1 u.2.2.2.2.2.2.2.1 u.2.2.2.2.2.2.2.2.1 u.2.2.2.2.2.2.2.2.2.1 u.2.2.2.2.2.2.2.2.2.2
theorem kE11 {T1 T2 T3 T4 T5 T6 T7 T8 T9 T10 T11 Z : Type} {u : T1 × T2 × T3 × T4 × T5 × T6 × T7 × T8 × T9 × T10 × T11} {k : T1 → T2 → T3 → T4 → T5 → T6 → T7 → T8 → T9 → T10 → T11 → Z} {x1 : T1} {x2 : T2} {x3 : T3} {x4 : T4} {x5 : T5} {x6 : T6} {x7 : T7} {x8 : T8} {x9 : T9} {x10 : T10} {x11 : T11} (h : (x1, x2, x3, x4, x5, x6, x7, x8, x9, x10, x11) = u) : kU11 u k = k x1 x2 x3 x4 x5 x6 x7 x8 x9 x10 x11 := by subst h; rfl
def kU12 {T1 T2 T3 T4 T5 T6 T7 T8 T9 T10 T11 T12 Z : Type} (u : T1 × T2 × T3 × T4 × T5 × T6 × T7 × T8 × T9 × T10 × T11 × T12) (k : T1 → T2 → T3 → T4 → T5 → T6 → T7 → T8 → T9 → T10 → T11 → T12 → Z) : Z := k u.1 u.2.1 u.2.2.1 u.2.2.2.1 u.2.2.2.2.1 u.2.2.2.2.2.1 u.2.2.2.2.2.2.1 u.2.2.2.2.2.2.2.1 u.2.2.2.2.2.2.2.2.1 u.2.2.2.2.2.2.2.2.2.1 u.2.2.2.2.2.2.2.2.2.2.1 u.2.2.2.2.2.2.2.2.2.2.2
theorem kE12 {T1 T2 T3 T4 T5 T6 T7 T8 T9 T10 T11 T12 Z : Type} {u : T1 × T2 × T3 × T4 × T5 × T6 × T7 × T8 × T9 × T10 × T11 × T12} {k : T1 → T2 → T3 → T4 → T5 → T6 → T7 → T8 → T9 → T10 → T11 → T12 → Z} {x1 : T1} {x2 : T2} {x3 : T3} {x4 : T4} {x5 : T5} {x6 : T6} {x7 : T7} {x8 : T8} {x9 : T9} {x10 : T10} {x11 : T11} {x12 : T12} (h : (x1, x2, x3, x4, x5, x6, x7, x8, x9, x10, x11, x12) = u) : kU12 u k = k x1 x2 x3 x4 x5 x6 x7 x8 x9 x10 x11 x12 := by subst h; rfl
def kU13 {T1 T2 T3 T4 T5 T6 T7 T8 T9 T10 T11 T12 T13 Z : Type} (u : T1 × T2 × T3 × T4 × T5 × T6 × T7 × T8 × T9 × T10 × T11 × T12 × T13) (k : T1 → T2 → T3 → T4 → T5 → T6 → T7 → T8 → T9 → T10 → T11 → T12 → T13 → Z) : Z := k u.1 u.2.1 u.2.2.1 u.2.2.2.1 u.2.2.2.2.1 u.2.2.2.2.2.1 u.2.2.2.2.2.2.1 u.2.2.2.2.2.2.2.1 u.2.2.2.2.2.2.2.2.1 u.2.2.2.2.2.2.2.2.2.1 u.2.2.2.2.2.2.2.2.2.2.1 u.2.2.2.2.2.2.2.2.2.2.2.1 u.2.2.2.2.2.2.2.2.2.2.2.2
theorem kE13 {T1 T2 T3 T4 T5 T6 T7 T8 T9 T10 T11 T12 T13 Z : Type} {u : T1 × T2 × T3 × T4 × T5 × T6 × T7 × T8 × T9 × T10 × T11 × T12 × T13} {k : T1 → T2 → T3 → T4 → T5 → T6 → T7 → T8 → T9 → T10 → T11 → T12 → T13 → Z} {x1 : T1} {x2 : T2} {x3 : T3} {x4 : T4} {x5 : T5} {x6 : T6} {x7 : T7} {x8 : T8} {x9 : T9} {x10 : T10} {x11 : T11} {x12 : T12} {x13 : T13} (h : (x1, x2, x3, x4, x5, x6, x7, x8, x9, x10, x11, x12, x13) = u) : kU13 u k = k x1 x2 x3 x4 x5 x6 x7 x8 x9 x10 x11 x12 x13 := by subst h; rfl
def kU14 {T1 T2 T3 T4 T5 T6 T7 T8 T9 T10 T11 T12 T13 T14 Z : Type} (u : T1 × T2 × T3 × T4 × T5 × T6 × T7 × T8 × T9 × T10 × T11 × T12 × T13 × T14) (k : T1 → T2 → T3 → T4 → T5 → T6 → T7 → T8 → T9 → T10 → T11 → T12 → T13 → T14 → Z) : Z := k u.1 u.2.1 u.2.2.1 u.2.2.2.1 u.2.2.2.2.1 u.2.2.2.2.2.1 u.2.2.2.2.2.2.1 u.2.2.2.2.2.2.2.1 u.2.2.2.2.2.2.2.2.1 u.2.2.2.2.2.2.2.2.2.1 u.2.2.2.2.2.2.2.2.2.2.1 u.2.2.2.2.2.2.2.2.2.2.2.1 u.2.2.2.2.2.2.2.2.2.2.2.2.1 u.2.2.2.2.2.2.2.2.2.2.2.2.2
theorem kE14 {T1 T2 T3 T4 T5 T6 T7 T8 T9 T10 T11 T12 T13 T14 Z : Type} {u : T1 × T2 × T3 × T4 × T5 × T6 × T7 × T8 × T9 × T10 × T11 × T12 × T13 × T14} {k : T1 → T2 → T3 → T4 → T5 → T6 → T7 → T8 → T9 → T10 → T11 → T12 → T13 → T14 → Z} {x1 : T1} {x2 : T2} {x3 : T3} {x4 : T4} {x5 : T5} {x6 : T6} {x7 : T7} {x8 : T8} {x9 : T9} {x10 : T10} {x11 : T11} {x12 : T12} {x13 : T13} {x14 : T14} (h : (x1, x2, x3, x4, x5, x6, x7, x8, x9, x10, x11, x12, x13, x14) = u) : kU14 u k = k x1 x2 x3 x4 x5 x6 x7 x8 x9 x10 x11 x12 x13 x14 := by subst h; rfl
def kU15 {T1 T2 T3 T4 T5 T6 T7 T8 T9 T10 T11 T12 T13 T14 T15 Z : Type} (u : T1 × T2 × T3 × T4 × T5 × T6 × T7 × T8 × T9 × T10 × T11 × T12 × T13 × T14 × T15) (k : T1 → T2 → T3 → T4 → T5 → T6 → T7 → T8 → T9 → T10 → T11 → T12 → T13 → T14 → T15 → Z) : Z := k u.1 u.2.1 u.2.2.1 u.2.2.2.1 u.2.2.2.2.1 u.2.2.2.2.2.1 u.2.2.2.2.2.2.1 u.2.2.2.2.2.2.2.1 u.2.2.2.2.2.2.2.2.1 u.2.2.2.2.2.2.2.2.2.1 u.2.2.2.2.2.2.2.2.2.2.1 u.2.2.2.2.2.2.2.2.2.2.2.1 u.2.2.2.2.2.2.2.2.2.2.2.2.1 u.2.2.2.2.2.2.2.2.2.2.2.2.2.1 u.2.2.2.2.2.2.2.2.2.2.2.2.2.2
theorem kE15 {T1 T2 T3 T4 T5 T6 T7 T8 T9 T10 T11 T12 T13 T14 T15 Z : Type} {u : T1 × T2 × T3 × T4 × T5 × T6 × T7 × T8 × T9 × T10 × T11 × T12 × T13 × T14 × T15} {k : T1 → T2 → T3 → T4 → T5 → T6 → T7 → T8 → T9 → T10 → T11 → T12 → T13 → T14 → T15 → Z} {x1 : T1} {x2 : T2} {x3 : T3} {x4 : T4} {x5 : T5} {x6 : T6} {x7 : T7} {x8 : T8} {x9 : T9} {x10 : T10} {x11 : T11} {x12 : T12} {x13 : T13} {x14 : T14} {x15 : T15} (h : (x1, x2, x3, x4, x5, x6, x7, x8, x9, x10, x11, x12, x13, x14, x15) = u) : kU15 u k = k x1 x2 x3 x4 x5 x6 x7 x8 x9 x10 x11 x12 x13 x14 x15 := by subst h; rfl
def kU16 {T1 T2 T3 T4 T5 T6 T7 T8 T9 T10 T11 T12 T13 T14 T15 T16 Z : Type} (u : T1 × T2 × T3 × T4 × T5 × T6 × T7 × T8 × T9 × T10 × T11 × T12 × T13 × T14 × T15 × T16) (k : T1 → T2 → T3 → T4 → T5 → T6 → T7 → T8 → T9 → T10 → T11 → T12 → T13 → T14 → T15 → T16 → Z) : Z := k u.1 u.2.1 u.2.2.1 u.2.2.2.1 u.2.2.2.2.1 u.2.2.2.2.2.1 u.2.2.2.2.2.2.1 u.2.2.2.2.2.2.2.1 u.2.2.2.2.2.2.2.2.1 u.2.2.2.2.2.2.2.2.2.1 u.2.2.2.2.2.2.2.2.2.2.1 u.2.2.2.2.2.2.2.2.2.2.2.1 u.2.2.2.2.2.2.2.2.2.2.2.2.1 u.2.2.2.2.2.2.2.2.2.2.2.2.2.1 u.2.2.2.2.2.2.2.2.2.2.2.2.2.2.1 u.2.2.2.2.2.2.2.2.2.2.2.2.2.2.2
theorem kE16 {T1 T2 T3 T4 T5 T6 T7 T8 T9 T10 T11 T12 T13 T14 T15 T16 Z : Type} {u : T1 × T2 × T3 × T4 × T5 × T6 × T7 × T8 × T9 × T10 × T11 × T12 × T13 × T14 × T15 × T16} {k : T1 → T2 → T3 → T4 → T5 → T6 → T7 → T8 → T9 → T10 → T11 → T12 → T13 → T14 → T15 → T16 → Z} {x1 : T1} {x2 : T2} {x3 : T3} {x4 : T4} {x5 : T5} {x6 : T6} {x7 : T7} {x8 : T8} {x9 : T9} {x10 : T10} {x11 : T11} {x12 : T12} {x13 : T13} {x14 : T14} {x15 : T15} {x16 : T16} (h : (x1, x2, x3, x4, x5, x6, x7, x8, x9, x10, x11, x12, x13, x14, x15, x16) = u) : kU16 u k = k x1 x2 x3 x4 x5 x6 x7 x8 x9 x10 x11 x12 x13 x14 x15 x16 := by subst h; rfl
def kU17 {T1 T2 T3 T4 T5 T6 T7 T8 T9 T10 T11 T12 T13 T14 T15 T16 T17 Z : Type} (u : T1 × T2 × T3 × T4 × T5 × T6 × T7 × T8 × T9 × T10 × T11 × T12 × T13 × T14 × T15 × T16 × T17) (k : T1 → T2 → T3 → T4 → T5 → T6 → T7 → T8 → T9 → T10 → T11 → T12 → T13 → T14 → T15 → T16 → T17 → Z) : Z := k u.1 u.2.1 u.2.2.1 u.2.2.2.1 u.2.2.2.2.1 u.2.2.2.2.2.1 u.2.2.2.2.2.2.1 u.2.2.2.2.2.2.2.1 u.2.2.2.2.2.2.2.2.1 u.2.2.2.2.2.2.2.2.2.1 u.2.2.2.2.2.2.2.2.2.2.1 u.2.2.2.2.2.2.2.2.2.2.2.1 u.2.2.2.2.2.2.2.2.2.2.2.2.1 u.2.2.2.2.2.2.2.2.2.2.2.2.2.1 u.2.2.2.2.2.2.2.2.2.2.2.2.2.2.1 u.2.2.2.2.2.2.2.2.2.2.2.2.2.2.2.1 u.2.2.2.2.2.2.2.2.2.2.2.2.2.2.2.2
theorem kE17 {T1 T2 T3 T4 T5 T6 T7 T8 T9 T10 T11 T12 T13 T14 T15 T16 T17 Z : Type} {u : T1 × T2 × T3 × T4 × T5 × T6 × T7 × T8 × T9 × T10 × T11 × T12 × T13 × T14 × T15 × T16 × T17} {k : T1 → T2 → T3 → T4 → T5 → T6 → T7 → T8 → T9 → T10 → T11 → T12 → T13 → T14 → T15 → T16 → T17 → Z} {x1 : T1} {x2 : T2} {x3 : T3} {x4 : T4} {x5 : T5} {x6 : T6} {x7 : T7} {x8 : T8} {x9 : T9} {x10 : T10} {x11 : T11} {x12 : T12} {x13 : T13} {x14 : T14} {x15 : T15} {x16 : T16} {x17 : T17} (h : (x1, x2, x3, x4, x5, x6, x7, x8, x9, x10, x11, x12, x13, x14, x15, x16, x17) = u) : kU17 u k = k x1 x2 x3 x4 x5 x6 x7 x8 x9 x10 x11 x12 x13 x14 x15 x16 x17 := by subst h; rfl
def kU18 {T1 T2 T3 T4 T5 T6 T7 T8 T9 T10 T11 T12 T13 T14 T15 T16 T17 T18 Z : Type} (u : T1 × T2 × T3 × T4 × T5 × T6 × T7 × T8 × T9 × T10 × T11 × T12 × T13 × T14 × T15 × T16 × T17 × T18) (k : T1 → T2 → T3 → T4 → T5 → T6 → T7 → T8 → T9 → T10 → T11 → T12 → T13 → T14 → T15 → T16 → T17 → T18 → Z) : Z := k u.1 u.2.1 u.2.2.1 u.2.2.2.1 u.2.2.2.2.1 u.2.2.2.2.2.1 u.2.2.2.2.2.2.1 u.2.2.2.2.2.2.2.1 u.2.2.2.2.2.2.2.2.1 u.2.2.2.2.2.2.2.2.2.1 u.2.2.2.2.2.2.2.2.2.2.1 u.2.2.2.2.2.2.2.2.2.2.2.1 u.2.2.2.2.2.2.2.2.2.2.2.2.1 u.2.2.2.2.2.2.2.2.2.2.2.2.2.1 u.2.2.2.2.2.2.2.2.2.2.2.2.2.2.1 u.2.2.2.2.2.2.2.2.2.2.2.2.2.2.2.1 u.2.2.2.2.2.2.2.2.2.2.2.2.2.2.2.2.1 u.2.2.2.2.2.2.2.2.2.2.2.2.2.2.2.2.2
theorem kE18 {T1 T2 T3 T4 T5 T6 T7 T8 T9 T10 T11 T12 T13 T14 T15 T16 T17 T18 Z : Type} {u : T1 × T2 × T3 × T4 × T5 × T6 × T7 × T8 × T9 × T10 × T11 × T12 × T13 × T14 × T15 × T16 × T17 × T18} {k : T1 → T2 → T3 → T4 → T5 → T6 → T7 → T8 → T9 → T10 → T11 → T12 → T13 → T14 → T15 → T16 → T17 → T18 → Z} {x1 : T1} {x2 : T2} {x3 : T3} {x4 : T4} {x5 : T5} {x6 : T6} {x7 : T7} {x8 : T8} {x9 : T9} {x10 : T10} {x11 : T11} {x12 : T12} {x13 : T13} {x14 : T14} {x15 : T15} {x16 : T16} {x17 : T17} {x18 : T18} (h : (x1, x2, x3, x4, x5, x6, x7, x8, x9, x10, x11, x12, x13, x14, x15, x16, x17, x18) = u) : kU18 u k = k x1 x2 x3 x4 x5 x6 x7 x8 x9 x10 x11 x12 x13 x14 x15 x16 x17 x18 := by subst h; rfl
def kU19 {T1 T2 T3 T4 T5 T6 T7 T8 T9 T10 T11 T12 T13 T14 T15 T16 T17 T18 T19 Z : Type} (u : T1 × T2 × T3 × T4 × T5 × T6 × T7 × T8 × T9 × T10 × T11 × T12 × T13 × T14 × T15 × T16 × T17 × T18 × T19) (k : T1 → T2 → T3 → T4 → T5 → T6 → T7 → T8 → T9 → T10 → T11 → T12 → T13 → T14 → T15 → T16 → T17 → T18 → T19 → Z) : Z := k u.1 u.2.1 u.2.2.1 u.2.2.2.1 u.2.2.2.2.1 u.2.2.2.2.2.1 u.2.2.2.2.2.2.1 u.2.2.2.2.2.2.2.1 u.2.2.2.2.2.2.2.2.1 u.2.2.2.2.2.2.2.2.2.1 u.2.2.2.2.2.2.2.2.2.2.1 u.2.2.2.2.2.2.2.2.2.2.2.1 u.2.2.2.2.2.2.2.2.2.2.2.2.1 u.2.2.2.2.2.2.2.2.2.2.2.2.2.1 u.2.2.2.2.2.2.2.2.2.2.2.2.2.2.1 u.2.2.2.2.2.2.2.2.2.2.2.2.2.2.2.1 u.2.2.2.2.2.2.2.2.2.2.2.2.2.2.2.2.1 u.2.2.2.2.2.2.2.2.2.2.2.2.2.2.2.2.2.1 u.2.2.2.2.2.2.2.2.2.2.2.2.2.2.2.2.2.2
theorem kE19 {T1 T2 T3 T4 T5 T6 T7 T8 T9 T10 T11 T12 T13 T14 T15 T16 T17 T18 T19 Z : Type} {u : T1 × T2 × T3 × T4 × T5 × T6 × T7 × T8 × T9 × T10 × T11 × T12 × T13 × T14 × T15 × T16 × T17 × T18 × T19} {k : T1 → T2 → T3 → T4 → T5 → T6 → T7 → T8 → T9 → T10 → T11 → T12 → T13 → T14 → T15 → T16 → T17 → T18 → T19 → Z} {x1 : T1} {x2 : T2} {x3 : T3} {x4 : T4} {x5 : T5} {x6 : T6} {x7 : T7} {x8 : T8} {x9 : T9} {x10 : T10} {x11 : T11} {x12 : T12} {x13 : T13} {x14 : T14} {x15 : T15} {x16 : T16} {x17 : T17} {x18 : T18} {x19 : T19} (h : (x1, x2, x3, x4, x5, x6, x7, x8, x9, x10, x11, x12, x13, x14, x15, x16, x17, x18, x19) = u) : kU19 u k = k x1 x2 x3 x4 x5 x6 x7 x8 x9 x10 x11 x12 x13 x14 x15 x16 x17 x18 x19 := by subst h; rfl
/-- tests as truth values -/
def kEq (x y : Int32) : Bool := decide (x = y)
def kLt (x y : Int32) : Bool := decide (x < y)
def kLe (x y : Int32) : Bool := decide (x ≤ y)
def kIf {α : Type} (q : Bool) (a b : α) : α := match q with | true => a | false => b
theorem kIf_t {α : Type} (a b : α) : kIf true a b = a := rfl
theorem kIf_f {α : Type} (a b : α) : kIf false a b = b := rfl
theorem kt_eq {α : Type} {x y : Int32} {a b : α} (h : x = y) : kIf (kEq x y) a b = a := by unfold kEq; rw [decide_eq_true h]; rfl
theorem kf_eq {α : Type} {x y : Int32} {a b : α} (h : ¬ x = y) : kIf (kEq x y) a b = b := by unfold kEq; rw [decide_eq_false h]; rfl
theorem kt_lt {α : Type} {x y : Int32} {a b : α} (h : x < y) : kIf (kLt x y) a b = a := by unfold kLt; rw [decide_eq_true h]; rfl
theorem kf_lt {α : Type} {x y : Int32} {a b : α} (h : ¬ x < y) : kIf (kLt x y) a b = b := by unfold kLt; rw [decide_eq_false h]; rfl
theorem kt_le {α : Type} {x y : Int32} {a b : α} (h : x ≤ y) : kIf (kLe x y) a b = a := by unfold kLe; rw [decide_eq_true h]; rfl
theorem kf_le {α : Type} {x y : Int32} {a b : α} (h : ¬ x ≤ y) : kIf (kLe x y) a b = b := by unfold kLe; rw [decide_eq_false h]; rfl
theorem kz_if {q : Bool} {a b : Int32} (ha : ¬ a = 0) (hb : ¬ b = 0) : ¬ kIf q a b = 0 := by cases q; exact hb; exact ha
/-- places in range -/
theorem ki_ffff (x : Int32) : vp_in (x &&& 65535) 65536 := pk_andIn x 16 (by decide) (by decide)
theorem ki_ff (x : Int32) : vp_in (x &&& 255) 256 := pk_andIn x 8 (by decide) (by decide)
theorem ki_3_4 (x : Int32) : vp_in (x &&& 3) 4 := pk_andIn x 2 (by decide) (by decide)
theorem ki_up {x : Int32} {a b : Nat} (h : vp_in x a) (hab : a ≤ b) : vp_in x b := by
  rw [vp_in_iff] at h ⊢; omega
theorem ki_3_6 (x : Int32) : vp_in (x &&& 3) 6 := ki_up (ki_3_4 x) (by decide)
theorem ki_7_8 (x : Int32) : vp_in (x &&& 7) 8 := pk_andIn x 3 (by decide) (by decide)
theorem ki_lt {x y : Int32} {n : Nat} (h1 : ¬ x < 0) (h2 : x < y) (hy : y.toInt = n) : vp_in x n := by
  rw [vp_in_iff]
  rw [Int32.lt_iff_toInt_lt] at h1 h2
  have : (0 : Int32).toInt = 0 := rfl
  omega
/-- a switch's way past its table -/
theorem ks_out {x : Int32} {lo hi : Int} (h : ∀ k : Int, lo ≤ k → k ≤ hi → ¬ x.toInt = k) : x.toInt < lo ∨ hi < x.toInt := by
  by_cases a : x.toInt < lo
  · exact Or.inl a
  · by_cases b : hi < x.toInt
    · exact Or.inr b
    · exact absurd rfl (h x.toInt (by omega) (by omega))
theorem ki_2p {x : Int32} (h : vp_in x 4) : vp_in ((2 : Int32) * x) 8 := by
  obtain ⟨j, hj, rfl⟩ := vp_in_of h (by decide)
  rcases (show j = 0 ∨ j = 1 ∨ j = 2 ∨ j = 3 by omega) with rfl | rfl | rfl | rfl <;> (unfold vp_in; decide)
theorem ki_2p1 {x : Int32} (h : vp_in x 4) : vp_in ((2 : Int32) * x + (1 : Int32)) 8 := by
  obtain ⟨j, hj, rfl⟩ := vp_in_of h (by decide)
  rcases (show j = 0 ∨ j = 1 ∨ j = 2 ∨ j = 3 by omega) with rfl | rfl | rfl | rfl <;> (unfold vp_in; decide)
theorem ki_sh1 {x : Int32} (h : vp_in x 8) : vp_in (x >>> ((1 : Int32) &&& (31 : Int32))) 4 := by
  obtain ⟨j, hj, rfl⟩ := vp_in_of h (by decide)
  rcases (show j = 0 ∨ j = 1 ∨ j = 2 ∨ j = 3 ∨ j = 4 ∨ j = 5 ∨ j = 6 ∨ j = 7 by omega) with rfl | rfl | rfl | rfl | rfl | rfl | rfl | rfl <;> (unfold vp_in; decide)
/-- loops: a body that goes on or ends, with fuel -/
def kIt {σ ρ : Type} (b : σ → σ ⊕ ρ) (d : ρ) : Nat → σ → ρ
  | 0, _ => d
  | n + 1, x => match b x with
    | .inl y => kIt b d n y
    | .inr r => r
theorem kI_inl {σ ρ : Type} {b : σ → σ ⊕ ρ} {d : ρ} {n : Nat} {x y : σ} (h : b x = .inl y) : kIt b d (n + 1) x = kIt b d n y := by
  show (match b x with | .inl y => kIt b d n y | .inr r => r) = _
  rw [h]
theorem kI_inr {σ ρ : Type} {b : σ → σ ⊕ ρ} {d : ρ} {n : Nat} {x : σ} {r : ρ} (h : b x = .inr r) : kIt b d (n + 1) x = r := by
  show (match b x with | .inl y => kIt b d n y | .inr r => r) = _
  rw [h]
/-- a counter i below K, with n rounds left -/
def kT (K : Nat) (i : Int32) (n : Nat) : Prop := ∃ j : Nat, i = nI j ∧ j ≤ K ∧ K < j + n
theorem kT_0 {K : Nat} {i : Int32} : ¬ kT K i 0 := fun ⟨_, _, h1, h2⟩ => by omega
theorem kT_init (K : Nat) : kT K 0 (K + 1) := ⟨0, nI_0.symm, Nat.zero_le _, by omega⟩
theorem kT_step {K n : Nat} {i i2 k : Int32} (e : i2 = i + 1) (hK : K < 2 ^ 31) (hk : k.toInt = (K : Int)) (c : ¬ k ≤ i) (h : kT K i (n + 1)) : kT K i2 n := by
  obtain ⟨j, rfl, h1, h2⟩ := h
  refine ⟨j + 1, by rw [e]; exact nI_1 j, ?_, by omega⟩
  rw [Int32.le_iff_toInt_le, hk, nI_toInt (by omega)] at c
  omega
theorem kT_stepV {n : Nat} {i i2 k : Int32} (e : i2 = i + 1) (c : ¬ k ≤ i) (h : kT k.toNatClampNeg i (n + 1)) : kT k.toNatClampNeg i2 n := by
  obtain ⟨j, rfl, h1, h2⟩ := h
  refine ⟨j + 1, by rw [e]; exact nI_1 j, ?_, by omega⟩
  have hb : k.toInt < 2 ^ 31 := Int32.toInt_lt k
  have hk : (k.toNatClampNeg : Int) = max k.toInt 0 := by
    show (k.toInt.toNat : Int) = _
    omega
  rw [Int32.le_iff_toInt_le, nI_toInt (by omega)] at c
  omega
theorem kw_start {p : Program} {l : Launch} {e : Env} {R : Room} {s : State} {m : MethodId} {args : Array Value} {below : List Frame} {meth : Method} {c : Code} {H0 H : Heap} {l0 l1 : List Loc} {cells slots : Nat} {Q : State → Prop} {g : JFrame} (h1 : H0 = H) (h2 : l0 = l1) (k : W p l e R s m args below meth c H l1 cells slots Q g) : W p l e R s m args below meth c H0 l0 cells slots Q g := by
  subst h1 h2; exact k
/-- the lowest pending bit is found -/
def kTd (a i : Int32) (n : Nat) : Prop := ∃ (q j : Nat), a = nI q ∧ i = nI j ∧ 0 < q ∧ q < 32 ∧ j ≤ 4 ∧ q % 2 ^ j = 0 ∧ 5 < j + n
theorem kTd_0 {a i : Int32} (_ : ∃ q : Nat, a = nI q ∧ 0 < q ∧ q < 32) : ¬ kTd a i 0 := fun ⟨_, _, _, _, _, _, h1, _, h2⟩ => by omega
theorem kTd_init {a : Int32} (h : ∃ q : Nat, a = nI q ∧ 0 < q ∧ q < 32) : kTd a 0 6 := by
  obtain ⟨q, h1, h2, h3⟩ := h
  exact ⟨q, 0, h1, nI_0.symm, h2, h3, by decide, by simp [Nat.mod_one], by decide⟩
theorem kTd_fin0 : ∀ q : Fin 32, ∀ j : Fin 5, ((nI q.val >>> (nI j.val &&& (31 : Int32))) &&& (1 : Int32)) = (0 : Int32) ∧ 0 < q.val ∧ q.val % 2 ^ j.val = 0 → j.val < 4 ∧ q.val % 2 ^ (j.val + 1) = 0 := by decide +kernel
theorem kTd_fin (q : Nat) (hq : q < 32) (j : Nat) (hj : j < 5) (c : ((nI q >>> (nI j &&& (31 : Int32))) &&& (1 : Int32)) = (0 : Int32)) (h0 : 0 < q) (h1 : q % 2 ^ j = 0) : j < 4 ∧ q % 2 ^ (j + 1) = 0 := kTd_fin0 ⟨q, hq⟩ ⟨j, hj⟩ ⟨c, h0, h1⟩
theorem kTd_step {a i i2 : Int32} {n : Nat} (_ : ∃ q : Nat, a = nI q ∧ 0 < q ∧ q < 32) (e : i2 = i + 1) (c : ((a >>> (i &&& (31 : Int32))) &&& (1 : Int32)) = (0 : Int32)) (h : kTd a i (n + 1)) : kTd a i2 n := by
  obtain ⟨q, j, rfl, rfl, h1, h2, h3, h4, h5⟩ := h
  obtain ⟨g1, g2⟩ := kTd_fin q h2 j (by omega) c h1 h4
  exact ⟨q, j + 1, rfl, by rw [e]; exact nI_1 j, h1, h2, by omega, g2, by omega⟩
theorem kd_pre {x y : Int32} (e : x = y &&& (31 : Int32)) (h : ¬ x ≤ (0 : Int32)) : ∃ q : Nat, x = nI q ∧ 0 < q ∧ q < 32 := by
  obtain ⟨j, hj, hx⟩ := pk_andE y (m := 31) 5 (by decide)
  refine ⟨j, e.trans hx, ?_, hj⟩
  rcases Nat.eq_zero_or_pos j with h0 | h0
  · subst h0; exact absurd (by rw [e, hx]; decide) h
  · exact h0
