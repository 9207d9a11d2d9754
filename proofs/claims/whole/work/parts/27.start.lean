theorem pw0 : pw false false false false (0 : Int32) (0 : Int32) (fun _ => 0) = fun _ => 0 := by
  funext j
  have e1 : p2 (0 : Int32) (fX4_flags false false false false) = 0 := by decide
  have e2 : p2 (0 : Int32) (0 : Int32) = 0 := by decide
  unfold pw
  simp only [e1, e2]
  repeat' split
  all_goals rfl
set_option maxHeartbeats 4000000 in
set_option maxRecDepth 100000 in
/-- THE LAW, from its entry -/
theorem whole_start {p : Program} {e : Env} {s : State} {m : MethodId} {below : List Frame} {meth : Method} {c : Code} (l : Launch) {b L : Nat} {xs : Nat → Int32} (hL : L ≤ 3072) (C0 : lw_At p s m meth c b L xs) : W p l e room_1 s m #[Value.ref b] below meth c s.heap [] 0 0 (lw_Z below #[Value.ref b] s) (entryFrame m ([Value.ref b] : List Value).toArray 4) := by
  obtain ⟨hx, hb, hr, hml, hown, hts, hX, hbl, hlocks, hgv⟩ := id C0
  have hown : s.vm.findClass RL = some m.cls := hown
  have hws : ∀ w ∈ wsL_law, w.before #[Value.ref b] s = true := fun w h => hts w (wsL_in w h)
  have hT := kx_start hts hgv
  obtain ⟨A, hAe⟩ : ∃ A : Nat → Prop, A = fun q : Nat => s.heap.size ≤ q := ⟨_, rfl⟩
  rw [← hAe] at hT
  have hA : ∀ q : Nat, s.heap.size ≤ q → A q := fun q h => by rw [hAe]; exact h
  obtain ⟨k0, iS0, hKn0⟩ := u_known (C := RX0) (T := TX0) (N := 2) (n := 2) hws inlX0 (hws _ mw_13)
  obtain ⟨k1, iS1, hKn1⟩ := u_known (C := RX1) (T := TX1) (N := 1) (n := 1) hws inlX1 (hws _ mw_31)
  obtain ⟨k2, iS2, hKn2⟩ := u_known (C := RX2) (T := TX2) (N := 1) (n := 1) hws inlX2 (hws _ mw_17)
  obtain ⟨k3, iS3, hKn3⟩ := u_known (C := RX3) (T := TX3) (N := 8) (n := 8) hws inlX3 (hws _ mw_1)
  obtain ⟨k4, iS4, hKn4⟩ := u_known (C := RX4) (T := TX4) (N := 18) (n := 18) hws inlX4 (hws _ mw_4)
  obtain ⟨dC, dI, hKc⟩ : ∃ (dC : Nat → ClassId) (dI : Nat → Nat → Nat), ∀ (k : Nat) (q : vw_C), vwCl[k]? = some q → u_Kn s q.1 q.2.1 q.2.2 (dC k) (dI k) := by
    refine ⟨fun k => if k = 0 then k0 else if k = 1 then k1 else if k = 2 then k2 else if k = 3 then k3 else k4, fun k => if k = 0 then iS0 else if k = 1 then iS1 else if k = 2 then iS2 else if k = 3 then iS3 else iS4, ?_⟩
    intro k q hq
    match k, hq with
    | 0, hq => cases hq; exact hKn0
    | 1, hq => cases hq; exact hKn1
    | 2, hq => cases hq; exact hKn2
    | 3, hq => cases hq; exact hKn3
    | 4, hq => cases hq; exact hKn4
    | k + 5, hq => simp [vwCl] at hq
  obtain ⟨D, hDe⟩ : ∃ D : va_G, D = (dC, dI) := ⟨_, rfl⟩
  have hS : va_S A s.heap s.heap [] := va_S.rf
  have hK : va_K D vwCl [] s := by rw [hDe]; exact ⟨hKc, fun k q h => by simp at h⟩
  have hP : va_P D vwCl [] s.heap := fun k q h => by simp at h
  have hD : va_D A [] := ⟨fun i j p q h => by simp at h, fun k q h => by simp at h⟩
  have hl := lv_entry ([.ref b]) (n := 4) (Nat.le_of_ble_eq_true rfl)
  rw [lg_entry_eq]
  generalize (lg_sl ([.ref b]) ++ List.replicate (4 - (lg_sl ([.ref b])).length) Slot.unset).toArray = ls at hl ⊢
  have hl : lv_has ls 4 [(0, .ref b)] := hl
  refine va_new (ci := 3) (fs := [.null, .null, .null, .int 0, .int 0, .int 0, .int 0, .int 0]) (C := RX3) (T := TX3) (N := 8) hx hb hws inlX3 tyX3 tyX3_ok hown (hws _ mw_0) (hws _ mw_1) (hws _ mw_2) hK hP hD hS hA rfl (fun j hj => by rcases (show j = 0 ∨ j = 1 ∨ j = 2 ∨ j = 3 ∨ j = 4 ∨ j = 5 ∨ j = 6 ∨ j = 7 by omega) with rfl | rfl | rfl | rfl | rfl | rfl | rfl | rfl <;> rfl) (Nat.le_of_ble_eq_true rfl) (Nat.le_of_ble_eq_true rfl) dL_law_0 (fun gc H hP hD hS => ?_)
  have hP : va_P D vwCl [(gc, .inr (3, [.null, .null, .null, .int 0, .int 0, .int 0, .int 0, .int 0]))] H := hP
  have hD : va_D A [(gc, .inr (3, [.null, .null, .null, .int 0, .int 0, .int 0, .int 0, .int 0]))] := hD
  refine lv_dup hx hb dL_law_3 rfl ?_
  refine kc_new (wr := []) (va_runI (As := []) (rest := [.ref gc]) ⟨hx, hb, hml, hown, hws⟩ (c_X3_init l D gc H.size) (cwI 0 hws (gw_I mw_8) rfl rfl rfl (hws _ mw_2) (hws _ mw_6) (hws _ mw_7) rfl hdX3_init ⟨Nat.le_of_ble_eq_true rfl, Nat.le_of_ble_eq_true rfl⟩) ⟨kp_blind _ _ _ _ _, kc_pre (isC := [0]) (isT := []) hK hP hD hS hA hT rfl rfl rfl _⟩ rfl rfl hl.1 rfl (lv_room (Nat.le_of_ble_eq_true rfl)) dL_law_4 ⟨Nat.le_of_ble_eq_true rfl, Nat.le_of_ble_eq_true rfl⟩) hK hP hD hS hA [0] [] rfl rfl rfl (by decide) (fun u9 H locs _ hP hD hK hS => ?_)
  obtain ⟨cB, cI, me, ba, rg, wa, sm⟩ := u9
  have hP : va_P D vwCl [(gc, .inr (3, [.ref me, .ref rg, .ref sm, .int (bI false), .int (bI false), .int (bI false), .int (bI false), .int (0 : Int32)])), (me, .inr (0, [.ref ba, .int (0 : Int32)])), (ba, .inl (cB, 65536, .inl (fun _ => 0))), (rg, .inr (1, [.ref wa])), (wa, .inl (cI, 6, .inl (fun _ => 0))), (sm, .inr (2, [.ref rg]))] H := hP
  have hD : va_D A [(gc, .inr (3, [.ref me, .ref rg, .ref sm, .int (bI false), .int (bI false), .int (bI false), .int (bI false), .int (0 : Int32)])), (me, .inr (0, [.ref ba, .int (0 : Int32)])), (ba, .inl (cB, 65536, .inl (fun _ => 0))), (rg, .inr (1, [.ref wa])), (wa, .inl (cI, 6, .inl (fun _ => 0))), (sm, .inr (2, [.ref rg]))] := hD
  refine lv_astore_n (lv' := [(1, .ref gc), (0, .ref b)]) hx hb dL_law_7 rfl hl (by decide) rfl (fun ls hl => ?_)
  refine va_new (ci := 4) (fs := [.null, .null, .int 0, .int 0, .int 0, .int 0, .int 0, .int 0, .int 0, .int 0, .int 0, .int 0, .int 0, .int 0, .int 0, .int 0, .int 0, .int 0]) (C := RX4) (T := TX4) (N := 18) hx hb hws inlX4 tyX4 tyX4_ok hown (hws _ mw_3) (hws _ mw_4) (hws _ mw_5) hK hP hD hS hA rfl (fun j hj => by rcases (show j = 0 ∨ j = 1 ∨ j = 2 ∨ j = 3 ∨ j = 4 ∨ j = 5 ∨ j = 6 ∨ j = 7 ∨ j = 8 ∨ j = 9 ∨ j = 10 ∨ j = 11 ∨ j = 12 ∨ j = 13 ∨ j = 14 ∨ j = 15 ∨ j = 16 ∨ j = 17 by omega) with rfl | rfl | rfl | rfl | rfl | rfl | rfl | rfl | rfl | rfl | rfl | rfl | rfl | rfl | rfl | rfl | rfl | rfl <;> rfl) (Nat.le_of_ble_eq_true rfl) (Nat.le_of_ble_eq_true rfl) dL_law_8 (fun mo H hP hD hS => ?_)
  have hP : va_P D vwCl [(gc, .inr (3, [.ref me, .ref rg, .ref sm, .int (bI false), .int (bI false), .int (bI false), .int (bI false), .int (0 : Int32)])), (me, .inr (0, [.ref ba, .int (0 : Int32)])), (ba, .inl (cB, 65536, .inl (fun _ => 0))), (rg, .inr (1, [.ref wa])), (wa, .inl (cI, 6, .inl (fun _ => 0))), (sm, .inr (2, [.ref rg])), (mo, .inr (4, [.null, .null, .int 0, .int 0, .int 0, .int 0, .int 0, .int 0, .int 0, .int 0, .int 0, .int 0, .int 0, .int 0, .int 0, .int 0, .int 0, .int 0]))] H := hP
  have hD : va_D A [(gc, .inr (3, [.ref me, .ref rg, .ref sm, .int (bI false), .int (bI false), .int (bI false), .int (bI false), .int (0 : Int32)])), (me, .inr (0, [.ref ba, .int (0 : Int32)])), (ba, .inl (cB, 65536, .inl (fun _ => 0))), (rg, .inr (1, [.ref wa])), (wa, .inl (cI, 6, .inl (fun _ => 0))), (sm, .inr (2, [.ref rg])), (mo, .inr (4, [.null, .null, .int 0, .int 0, .int 0, .int 0, .int 0, .int 0, .int 0, .int 0, .int 0, .int 0, .int 0, .int 0, .int 0, .int 0, .int 0, .int 0]))] := hD
  refine lv_dup hx hb dL_law_11 rfl ?_
  refine kc_new (wr := [(gc, .inr (3, [.ref me, .ref rg, .ref sm, .int (bI false), .int (bI false), .int (bI false), .int (bI false), .int (0 : Int32)])), (me, .inr (0, [.ref ba, .int (0 : Int32)])), (ba, .inl (cB, 65536, .inl (fun _ => 0))), (rg, .inr (1, [.ref wa])), (wa, .inl (cI, 6, .inl (fun _ => 0))), (sm, .inr (2, [.ref rg]))]) (va_runI (As := []) (rest := [.ref mo]) ⟨hx, hb, hml, hown, hws⟩ (c_X4_init l D mo H.size) (cwI 0 hws (gw_I mw_41) rfl rfl rfl (hws _ mw_5) (hws _ mw_39) (hws _ mw_40) rfl hdX4_init ⟨Nat.le_of_ble_eq_true rfl, Nat.le_of_ble_eq_true rfl⟩) ⟨kp_blind _ _ _ _ _, kc_pre (isC := [6]) (isT := []) hK hP hD hS hA hT rfl rfl rfl _⟩ rfl rfl hl.1 rfl (lv_room (Nat.le_of_ble_eq_true rfl)) dL_law_12 ⟨Nat.le_of_ble_eq_true rfl, Nat.le_of_ble_eq_true rfl⟩) hK hP hD hS hA [6] [0, 1, 2, 3, 4, 5] rfl rfl rfl (by decide) (fun u9 H locs _ hP hD hK hS => ?_)
  obtain ⟨dB, dI, mb, ma⟩ := u9
  have hP : va_P D vwCl (kLL cB cI dB dI gc me ba rg wa sm mo mb ma false false false false (0 : Int32) (fun _ => 0) (0 : Int32) (fun _ => 0) false false false false (0 : Int32) (0 : Int32) false false false false (0 : Int32) (0 : Int32) (0 : Int32) false false (0 : Int32) (fun _ => 0) (fun _ => 0)) H := hP
  have hD : va_D A (kLL cB cI dB dI gc me ba rg wa sm mo mb ma false false false false (0 : Int32) (fun _ => 0) (0 : Int32) (fun _ => 0) false false false false (0 : Int32) (0 : Int32) false false false false (0 : Int32) (0 : Int32) (0 : Int32) false false (0 : Int32) (fun _ => 0) (fun _ => 0)) := hD
  have hP : va_P D vwCl (kLL cB cI dB dI gc me ba rg wa sm mo mb ma false false false false (0 : Int32) (fun _ => 0) (0 : Int32) (pw false false false false (0 : Int32) (0 : Int32) (fun _ => 0)) false false false false (0 : Int32) (0 : Int32) false false false false (0 : Int32) (0 : Int32) (0 : Int32) false false (0 : Int32) (fun _ => 0) (fun _ => 0)) H := by rw [pw0]; exact hP
  have hD : va_D A (kLL cB cI dB dI gc me ba rg wa sm mo mb ma false false false false (0 : Int32) (fun _ => 0) (0 : Int32) (pw false false false false (0 : Int32) (0 : Int32) (fun _ => 0)) false false false false (0 : Int32) (0 : Int32) false false false false (0 : Int32) (0 : Int32) (0 : Int32) false false (0 : Int32) (fun _ => 0) (fun _ => 0)) := by rw [pw0]; exact hD
  have hK : va_K D vwCl [(cB, .byte), (cI, .int), (dB, .byte), (dI, .int)] s := hK
  refine lv_astore_n (lv' := [(2, .ref mo), (1, .ref gc), (0, .ref b)]) hx hb dL_law_15 rfl hl (by decide) rfl (fun ls hl => ?_)
  refine lv_iconst (v := 0) hx hb dL_law_16 (by decide) ?_
  refine lv_istore_n (lv' := [(3, .int 0), (2, .ref mo), (1, .ref gc), (0, .ref b)]) hx hb dL_law_17 rfl hl (by decide) rfl (fun ls hl => ?_)
  refine W.widen (k := 600000) (n := 7302250) (by decide) (by decide) ?_
  exact law_loop hAe hL C0 hK hT (L + 1) 0 0 (Nat.zero_le L) (by omega) nI_0.symm false false false false (0 : Int32) (0 : Int32) false false false false (0 : Int32) (0 : Int32) (0 : Int32) false false (0 : Int32) (fun _ => 0) (fun _ => 0) ⟨fun _ => (show Byt (0 : Int32) from by unfold Byt; decide), by unfold Wrd; decide, by unfold Wrd; decide, rfl⟩ H locs hP hD hS ls (lv_sub hl [3, 2, 1, 0] rfl)
