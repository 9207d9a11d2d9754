abbrev kLL (cB : ClassId) (cI : ClassId) (dB : ClassId) (dI : ClassId) (gc me ba rg wa sm mo mb ma : Nat) (v_im : Bool) (v_ei : Bool) (v_ha : Bool) (v_hb : Bool) (v_cy : Int32) (v_by : Nat → Int32) (v_ct : Int32) (v_wd : Nat → Int32) (w_zf : Bool) (w_nf : Bool) (w_hf : Bool) (w_cf : Bool) (w_sp : Int32) (w_pc : Int32) (w_on : Bool) (w_wt : Bool) (w_ht : Bool) (w_bg : Bool) (w_cn : Int32) (w_al : Int32) (w_cl : Int32) (w_ie : Bool) (w_ww : Bool) (w_th : Int32) (w_mm : Nat → Int32) (w_bs : Nat → Int32) : va_W := [(gc, .inr (3, [.ref me, .ref rg, .ref sm, .int (bI v_im), .int (bI v_ei), .int (bI v_ha), .int (bI v_hb), .int v_cy])), (me, .inr (0, [.ref ba, .int v_ct])), (ba, .inl (cB, 65536, .inl v_by)), (rg, .inr (1, [.ref wa])), (wa, .inl (cI, 6, .inl v_wd)), (sm, .inr (2, [.ref rg])), (mo, .inr (4, [.ref mb, .ref ma, .int (bI w_zf), .int (bI w_nf), .int (bI w_hf), .int (bI w_cf), .int w_sp, .int w_pc, .int (bI w_on), .int (bI w_wt), .int (bI w_ht), .int (bI w_bg), .int w_cn, .int w_al, .int w_cl, .int (bI w_ie), .int (bI w_ww), .int w_th])), (mb, .inl (dB, 65536, .inl w_mm)), (ma, .inl (dI, 8, .inl w_bs))]
set_option maxHeartbeats 8000000 in
set_option maxRecDepth 100000 in
/-- THE LAW'S LOOP: at its head, the class and the reference agree -/
theorem law_loop {p : Program} {l : Launch} {e : Env} {s : State} {m : MethodId} {below : List Frame} {meth : Method} {c : Code} {D : va_G} {b L : Nat} {xs : Nat → Int32} {cB cI dB dI : ClassId} {gc me ba rg wa sm mo mb ma : Nat} {A : Nat → Prop} (hAe : A = fun q : Nat => s.heap.size ≤ q) (hL : L ≤ 3072) (C0 : lw_At p s m meth c b L xs) (hK : va_K D vwCl [(cB, .byte), (cI, .int), (dB, .byte), (dI, .int)] s) (hT : kx A s) : ∀ (n9 j9 : Nat) (i9 : Int32), j9 ≤ L → L + 1 ≤ j9 + n9 → i9 = nI j9 → ∀ (z : Bool) (n : Bool) (h : Bool) (c9 : Bool) (sp : Int32) (pc : Int32) (on : Bool) (wt : Bool) (ht : Bool) (bg : Bool) (cn : Int32) (al : Int32) (cl : Int32) (ie : Bool) (ww : Bool) (th : Int32) (mm : Nat → Int32) (bs : Nat → Int32), Inv bs sp pc wt bg → ∀ (H : Heap) (locs : List Loc), va_P D vwCl (kLL cB cI dB dI gc me ba rg wa sm mo mb ma on wt ht bg al mm cn (pw z n h c9 sp pc bs) z n h c9 sp pc on wt ht bg cn al cl ie ww th mm bs) H → va_D A (kLL cB cI dB dI gc me ba rg wa sm mo mb ma on wt ht bg al mm cn (pw z n h c9 sp pc bs) z n h c9 sp pc on wt ht bg cn al cl ie ww th mm bs) → va_S A s.heap H locs → ∀ (ls : Array Slot), lv_has ls 4 [(0, .ref b), (1, .ref gc), (2, .ref mo), (3, .int i9)] → W p l e room_1 s m #[Value.ref b] below meth c H locs 600000 7302250 (lw_Z below #[Value.ref b] s) (F0 m 18 ls []) := by
  obtain ⟨hx, hb, hr, hml, hown, hts, hX, hbl, hlocks, hgv⟩ := C0
  have hown : s.vm.findClass RL = some m.cls := hown
  have hws : ∀ w ∈ wsL_law, w.before #[Value.ref b] s = true := fun w h => hts w (wsL_in w h)
  have hA : ∀ q : Nat, s.heap.size ≤ q → A q := fun q h => by rw [hAe]; exact h
  have hbA : ¬ A b := by rw [hAe]; exact Nat.not_le.mpr hbl
  have hAb : ∀ q : Nat, A q → s.heap.size ≤ q := fun q h => by rw [hAe] at h; exact h
  intro n9
  induction n9 with
  | zero => intro j9 i9 h1 h2; exact absurd h2 (by omega)
  | succ n9 ih =>
    intro j9 i9 hj hn9 ei9 z n h c9 sp pc on wt ht bg cn al cl ie ww th mm bs hI H locs hP hD hS ls hl
    refine lv_iload_n hx hb dL_law_18 rfl (lv_at hl 3 rfl) ?_
    refine lv_aload_n hx hb dL_law_19 rfl (lv_at hl 0 rfl) ?_
    refine va_slen hx hb hX hbl hbA hS dL_law_20 ?_
    refine lv_bipush (v := 6) hx hb dL_law_21 (by decide) ?_
    refine lv_isub hx hb dL_law_23 ?_
    refine lv_icmp_gt (tgt := 364) hx hb dL_law_24 (by decide) (fun c0 => ?_) (fun c0 => ?_)
    · refine lv_iconst (v := 1) hx hb dL_law_364 (by decide) ?_
      refine va_forget (fun q hq => hAb _ (hS.2.2 q hq)) ?_
      exact lw_ret hx hb hr hlocks dL_law_365
    · have hlt : j9 + 6 ≤ L := by
        rw [Int32.lt_iff_toInt_lt, ei9, nI_toInt (by omega)] at c0
        have e6 : (Int32.ofNat L - (6 : Int32)).toInt = (L : Int) - 6 := pk_sub_toInt (a := L) (b := 6) (by omega) (by decide)
        rw [e6] at c0
        omega
      have hi0 : vp_in i9 L := by rw [ei9]; exact vp_in_nI (by omega) (by omega)
      have hi1 : vp_in (i9 + (1 : Int32)) L := by rw [ei9, show nI j9 + (1 : Int32) = nI (j9 + 1) from nI_add j9 1]; exact vp_in_nI (by omega) (by omega)
      have hi2 : vp_in (i9 + (2 : Int32)) L := by rw [ei9, show nI j9 + (2 : Int32) = nI (j9 + 2) from nI_add j9 2]; exact vp_in_nI (by omega) (by omega)
      have hi3 : vp_in (i9 + (3 : Int32)) L := by rw [ei9, show nI j9 + (3 : Int32) = nI (j9 + 3) from nI_add j9 3]; exact vp_in_nI (by omega) (by omega)
      have hi4 : vp_in (i9 + (4 : Int32)) L := by rw [ei9, show nI j9 + (4 : Int32) = nI (j9 + 4) from nI_add j9 4]; exact vp_in_nI (by omega) (by omega)
      have hi5 : vp_in (i9 + (5 : Int32)) L := by rw [ei9, show nI j9 + (5 : Int32) = nI (j9 + 5) from nI_add j9 5]; exact vp_in_nI (by omega) (by omega)
      refine lv_aload_n hx hb dL_law_27 rfl (lv_at hl 0 rfl) ?_
      refine lv_iload_n hx hb dL_law_28 rfl (lv_at hl 3 rfl) ?_
      refine va_sld hx hb hX hbl hbA hS hi0 dL_law_29 ?_
      refine lv_bipush (v := 15) hx hb dL_law_30 (by decide) ?_
      refine lv_iand hx hb dL_law_32 ?_
      by_cases w0 : (xs i9.toNatClampNeg &&& (15 : Int32)) = (0 : Int32)
      · refine lv_tableIn (off := 55) (tgt := 88) hx hb dL_law_33 (by rw [w0]; decide) (by rw [w0]; decide) (by rw [w0]; decide) (by decide) ?_
        refine lv_aload_n hx hb dL_law_88 rfl (lv_at hl 1 rfl) ?_
        refine lv_aload_n hx hb dL_law_89 rfl (lv_at hl 0 rfl) ?_
        refine lv_iload_n hx hb dL_law_90 rfl (lv_at hl 3 rfl) ?_
        refine lv_iconst (v := 1) hx hb dL_law_91 (by decide) ?_
        refine lv_iadd hx hb dL_law_92 ?_
        refine va_sld hx hb hX hbl hbA hS hi1 dL_law_93 ?_
        refine lv_aload_n hx hb dL_law_94 rfl (lv_at hl 0 rfl) ?_
        refine lv_iload_n hx hb dL_law_95 rfl (lv_at hl 3 rfl) ?_
        refine lv_iconst (v := 2) hx hb dL_law_96 (by decide) ?_
        refine lv_iadd hx hb dL_law_97 ?_
        refine va_sld hx hb hX hbl hbA hS hi2 dL_law_98 ?_
        refine kc_Vi (wr := [(mo, .inr (4, [.ref mb, .ref ma, .int (bI z), .int (bI n), .int (bI h), .int (bI c9), .int sp, .int pc, .int (bI on), .int (bI wt), .int (bI ht), .int (bI bg), .int cn, .int al, .int cl, .int (bI ie), .int (bI ww), .int th])), (mb, .inl (dB, 65536, .inl mm)), (ma, .inl (dI, 8, .inl bs))]) (As := [.int (xs (i9 + (1 : Int32)).toNatClampNeg), .int (xs (i9 + (2 : Int32)).toNatClampNeg)]) (rest := []) (fun u9 => (kLL cB cI dB dI gc me ba rg wa sm mo mb ma on wt ht bg al u9 cn (pw z n h c9 sp pc bs) z n h c9 sp pc on wt ht bg cn al cl ie ww th mm bs)) ⟨hx, hb, hml, hown, hws⟩ hK hP hD hS hA hT (c_X3_poke l D cB cI gc me ba rg wa sm H.size on wt ht bg al mm cn (pw z n h c9 sp pc bs) (xs (i9 + (1 : Int32)).toNatClampNeg) (xs (i9 + (2 : Int32)).toNatClampNeg)) (cwV 2 hws (gw_V mw_46 mw_47 mw_48 mw_2 mw_49) rfl rfl rfl hdX3_poke ⟨Nat.le_of_ble_eq_true rfl, Nat.le_of_ble_eq_true rfl⟩) [0, 1, 2, 3, 4, 5] [6, 7, 8] [0, 1] [3, 4, 5, 6, 7, 8, 0, 1, 2] rfl rfl rfl rfl (by decide) rfl (fun _ => rfl) rfl 0 rfl rfl rfl rfl hl.1 rfl (Nat.le_of_ble_eq_true rfl) dL_law_99 ⟨Nat.le_of_ble_eq_true rfl, Nat.le_of_ble_eq_true rfl⟩ (fun r3 b1 H locs hw2 hP hD hS => ?_)
        obtain ⟨z4, rfl, hw2⟩ := hw2
        have hP : va_P D vwCl (kLL cB cI dB dI gc me ba rg wa sm mo mb ma on wt ht bg al b1 cn (pw z n h c9 sp pc bs) z n h c9 sp pc on wt ht bg cn al cl ie ww th mm bs) H := hP
        have hD : va_D A (kLL cB cI dB dI gc me ba rg wa sm mo mb ma on wt ht bg al b1 cn (pw z n h c9 sp pc bs) z n h c9 sp pc on wt ht bg cn al cl ie ww th mm bs) := hD
        refine lv_aload_n hx hb dL_law_102 rfl (lv_at hl 2 rfl) ?_
        refine lv_aload_n hx hb dL_law_103 rfl (lv_at hl 0 rfl) ?_
        refine lv_iload_n hx hb dL_law_104 rfl (lv_at hl 3 rfl) ?_
        refine lv_iconst (v := 1) hx hb dL_law_105 (by decide) ?_
        refine lv_iadd hx hb dL_law_106 ?_
        refine va_sld hx hb hX hbl hbA hS hi1 dL_law_107 ?_
        refine lv_aload_n hx hb dL_law_108 rfl (lv_at hl 0 rfl) ?_
        refine lv_iload_n hx hb dL_law_109 rfl (lv_at hl 3 rfl) ?_
        refine lv_iconst (v := 2) hx hb dL_law_110 (by decide) ?_
        refine lv_iadd hx hb dL_law_111 ?_
        refine va_sld hx hb hX hbl hbA hS hi2 dL_law_112 ?_
        refine kc_Vi (wr := [(gc, .inr (3, [.ref me, .ref rg, .ref sm, .int (bI on), .int (bI wt), .int (bI ht), .int (bI bg), .int al])), (me, .inr (0, [.ref ba, .int cn])), (ba, .inl (cB, 65536, .inl b1)), (rg, .inr (1, [.ref wa])), (wa, .inl (cI, 6, .inl (pw z n h c9 sp pc bs))), (sm, .inr (2, [.ref rg]))]) (As := [.int (xs (i9 + (1 : Int32)).toNatClampNeg), .int (xs (i9 + (2 : Int32)).toNatClampNeg)]) (rest := [.int (bI z4)]) (fun u9 => (kLL cB cI dB dI gc me ba rg wa sm mo mb ma on wt ht bg al b1 cn (pw z n h c9 sp pc bs) z n h c9 sp pc on wt ht bg cn al cl ie ww (u9.1) (u9.2) bs)) ⟨hx, hb, hml, hown, hws⟩ hK hP hD hS hA hT (c_X4_poke l D dB dI mo mb ma H.size z n h c9 sp pc on wt ht bg cn al cl ie ww th mm bs (xs (i9 + (1 : Int32)).toNatClampNeg) (xs (i9 + (2 : Int32)).toNatClampNeg)) (cwV 2 hws (gw_V mw_56 mw_57 mw_58 mw_5 mw_59) rfl rfl rfl hdX4_poke ⟨Nat.le_of_ble_eq_true rfl, Nat.le_of_ble_eq_true rfl⟩) [6, 7, 8] [0, 1, 2, 3, 4, 5] [2, 3] [0, 1, 2, 3, 4, 5, 6, 7, 8] rfl rfl rfl rfl (by decide) rfl (fun _ => rfl) rfl 6 rfl rfl rfl rfl hl.1 rfl (Nat.le_of_ble_eq_true rfl) dL_law_113 ⟨Nat.le_of_ble_eq_true rfl, Nat.le_of_ble_eq_true rfl⟩ (fun r8 u9 H locs hw7 hP hD hS => ?_)
        obtain ⟨b5, b6⟩ := u9
        obtain ⟨z9, rfl, hw7⟩ := hw7
        have hP : va_P D vwCl (kLL cB cI dB dI gc me ba rg wa sm mo mb ma on wt ht bg al b1 cn (pw z n h c9 sp pc bs) z n h c9 sp pc on wt ht bg cn al cl ie ww b5 b6 bs) H := hP
        have hD : va_D A (kLL cB cI dB dI gc me ba rg wa sm mo mb ma on wt ht bg al b1 cn (pw z n h c9 sp pc bs) z n h c9 sp pc on wt ht bg cn al cl ie ww b5 b6 bs) := hD
        obtain ⟨q9, m9, e3, e4⟩ := s_poke (mm := mm) (th := th) (xs (i9 + (1 : Int32)).toNatClampNeg) (xs (i9 + (2 : Int32)).toNatClampNeg)
        have k1 := hw2.trans e3
        have k2 := hw7.trans e4
        cases k1
        cases k2
        refine lv_icmp_eq (tgt := 358) hx hb dL_law_116 (by decide) (fun _ => ?_) (fun c1 => absurd rfl c1)
        obtain ⟨x9, ex9⟩ : ∃ y9 : Int32, y9 = i9 + 6 := ⟨_, rfl⟩
        refine lv_iinc (v := x9) (lv' := [(3, .int x9), (0, .ref b), (1, .ref gc), (2, .ref mo)]) hx hb dL_law_358 hl (k := 3) rfl (by rw [ex9]; rfl) (by decide) rfl (fun ls hl => ?_)
        refine lv_goto (tgt := 18) hx hb dL_law_361 (by decide) ?_
        exact ih (j9 + 6) x9 (by omega) (by omega) (by rw [ex9, ei9]; exact nI_add j9 6) _ _ _ _ _ _ _ _ _ _ _ _ _ _ _ _ _ _ hI H locs hP hD hS ls (lv_sub hl [1, 2, 3, 0] rfl)
      · skip
        by_cases w1 : (xs i9.toNatClampNeg &&& (15 : Int32)) = (1 : Int32)
        · refine lv_tableIn (off := 88) (tgt := 121) hx hb dL_law_33 (by rw [w1]; decide) (by rw [w1]; decide) (by rw [w1]; decide) (by decide) ?_
          refine lv_aload_n hx hb dL_law_121 rfl (lv_at hl 1 rfl) ?_
          refine lv_aload_n hx hb dL_law_122 rfl (lv_at hl 0 rfl) ?_
          refine lv_iload_n hx hb dL_law_123 rfl (lv_at hl 3 rfl) ?_
          refine lv_iconst (v := 1) hx hb dL_law_124 (by decide) ?_
          refine lv_iadd hx hb dL_law_125 ?_
          refine va_sld hx hb hX hbl hbA hS hi1 dL_law_126 ?_
          refine lv_aload_n hx hb dL_law_127 rfl (lv_at hl 0 rfl) ?_
          refine lv_iload_n hx hb dL_law_128 rfl (lv_at hl 3 rfl) ?_
          refine lv_iconst (v := 2) hx hb dL_law_129 (by decide) ?_
          refine lv_iadd hx hb dL_law_130 ?_
          refine va_sld hx hb hX hbl hbA hS hi2 dL_law_131 ?_
          refine lv_aload_n hx hb dL_law_132 rfl (lv_at hl 0 rfl) ?_
          refine lv_iload_n hx hb dL_law_133 rfl (lv_at hl 3 rfl) ?_
          refine lv_iconst (v := 3) hx hb dL_law_134 (by decide) ?_
          refine lv_iadd hx hb dL_law_135 ?_
          refine va_sld hx hb hX hbl hbA hS hi3 dL_law_136 ?_
          refine lv_aload_n hx hb dL_law_137 rfl (lv_at hl 0 rfl) ?_
          refine lv_iload_n hx hb dL_law_138 rfl (lv_at hl 3 rfl) ?_
          refine lv_iconst (v := 4) hx hb dL_law_139 (by decide) ?_
          refine lv_iadd hx hb dL_law_140 ?_
          refine va_sld hx hb hX hbl hbA hS hi4 dL_law_141 ?_
          refine lv_aload_n hx hb dL_law_142 rfl (lv_at hl 0 rfl) ?_
          refine lv_iload_n hx hb dL_law_143 rfl (lv_at hl 3 rfl) ?_
          refine lv_iconst (v := 5) hx hb dL_law_144 (by decide) ?_
          refine lv_iadd hx hb dL_law_145 ?_
          refine va_sld hx hb hX hbl hbA hS hi5 dL_law_146 ?_
          refine kc_Vi (wr := [(mo, .inr (4, [.ref mb, .ref ma, .int (bI z), .int (bI n), .int (bI h), .int (bI c9), .int sp, .int pc, .int (bI on), .int (bI wt), .int (bI ht), .int (bI bg), .int cn, .int al, .int cl, .int (bI ie), .int (bI ww), .int th])), (mb, .inl (dB, 65536, .inl mm)), (ma, .inl (dI, 8, .inl bs))]) (As := [.int (xs (i9 + (1 : Int32)).toNatClampNeg), .int (xs (i9 + (2 : Int32)).toNatClampNeg), .int (xs (i9 + (3 : Int32)).toNatClampNeg), .int (xs (i9 + (4 : Int32)).toNatClampNeg), .int (xs (i9 + (5 : Int32)).toNatClampNeg)]) (rest := []) (fun u9 => (kLL cB cI dB dI gc me ba rg wa sm mo mb ma on wt ht bg al u9 cn (pw z n h c9 sp pc bs) z n h c9 sp pc on wt ht bg cn al cl ie ww th mm bs)) ⟨hx, hb, hml, hown, hws⟩ hK hP hD hS hA hT (c_X3_feed l D cB cI gc me ba rg wa sm H.size on wt ht bg al mm cn (pw z n h c9 sp pc bs) (xs (i9 + (1 : Int32)).toNatClampNeg) (xs (i9 + (2 : Int32)).toNatClampNeg) (xs (i9 + (3 : Int32)).toNatClampNeg) (xs (i9 + (4 : Int32)).toNatClampNeg) (xs (i9 + (5 : Int32)).toNatClampNeg)) (cwV 5 hws (gw_V mw_66 mw_67 mw_68 mw_2 mw_69) rfl rfl rfl hdX3_feed ⟨Nat.le_of_ble_eq_true rfl, Nat.le_of_ble_eq_true rfl⟩) [0, 1, 2, 3, 4, 5] [6, 7, 8] [0, 1] [3, 4, 5, 6, 7, 8, 0, 1, 2] rfl rfl rfl rfl (by decide) rfl (fun _ => rfl) rfl 0 rfl rfl rfl rfl hl.1 rfl (Nat.le_of_ble_eq_true rfl) dL_law_147 ⟨Nat.le_of_ble_eq_true rfl, Nat.le_of_ble_eq_true rfl⟩ (fun r12 b10 H locs hw11 hP hD hS => ?_)
          obtain ⟨z13, rfl, hw11⟩ := hw11
          have hP : va_P D vwCl (kLL cB cI dB dI gc me ba rg wa sm mo mb ma on wt ht bg al b10 cn (pw z n h c9 sp pc bs) z n h c9 sp pc on wt ht bg cn al cl ie ww th mm bs) H := hP
          have hD : va_D A (kLL cB cI dB dI gc me ba rg wa sm mo mb ma on wt ht bg al b10 cn (pw z n h c9 sp pc bs) z n h c9 sp pc on wt ht bg cn al cl ie ww th mm bs) := hD
          refine lv_aload_n hx hb dL_law_150 rfl (lv_at hl 2 rfl) ?_
          refine lv_aload_n hx hb dL_law_151 rfl (lv_at hl 0 rfl) ?_
          refine lv_iload_n hx hb dL_law_152 rfl (lv_at hl 3 rfl) ?_
          refine lv_iconst (v := 1) hx hb dL_law_153 (by decide) ?_
          refine lv_iadd hx hb dL_law_154 ?_
          refine va_sld hx hb hX hbl hbA hS hi1 dL_law_155 ?_
          refine lv_aload_n hx hb dL_law_156 rfl (lv_at hl 0 rfl) ?_
          refine lv_iload_n hx hb dL_law_157 rfl (lv_at hl 3 rfl) ?_
          refine lv_iconst (v := 2) hx hb dL_law_158 (by decide) ?_
          refine lv_iadd hx hb dL_law_159 ?_
          refine va_sld hx hb hX hbl hbA hS hi2 dL_law_160 ?_
          refine lv_aload_n hx hb dL_law_161 rfl (lv_at hl 0 rfl) ?_
          refine lv_iload_n hx hb dL_law_162 rfl (lv_at hl 3 rfl) ?_
          refine lv_iconst (v := 3) hx hb dL_law_163 (by decide) ?_
          refine lv_iadd hx hb dL_law_164 ?_
          refine va_sld hx hb hX hbl hbA hS hi3 dL_law_165 ?_
          refine lv_aload_n hx hb dL_law_166 rfl (lv_at hl 0 rfl) ?_
          refine lv_iload_n hx hb dL_law_167 rfl (lv_at hl 3 rfl) ?_
          refine lv_iconst (v := 4) hx hb dL_law_168 (by decide) ?_
          refine lv_iadd hx hb dL_law_169 ?_
          refine va_sld hx hb hX hbl hbA hS hi4 dL_law_170 ?_
          refine lv_aload_n hx hb dL_law_171 rfl (lv_at hl 0 rfl) ?_
          refine lv_iload_n hx hb dL_law_172 rfl (lv_at hl 3 rfl) ?_
          refine lv_iconst (v := 5) hx hb dL_law_173 (by decide) ?_
          refine lv_iadd hx hb dL_law_174 ?_
          refine va_sld hx hb hX hbl hbA hS hi5 dL_law_175 ?_
          refine kc_Vi (wr := [(gc, .inr (3, [.ref me, .ref rg, .ref sm, .int (bI on), .int (bI wt), .int (bI ht), .int (bI bg), .int al])), (me, .inr (0, [.ref ba, .int cn])), (ba, .inl (cB, 65536, .inl b10)), (rg, .inr (1, [.ref wa])), (wa, .inl (cI, 6, .inl (pw z n h c9 sp pc bs))), (sm, .inr (2, [.ref rg]))]) (As := [.int (xs (i9 + (1 : Int32)).toNatClampNeg), .int (xs (i9 + (2 : Int32)).toNatClampNeg), .int (xs (i9 + (3 : Int32)).toNatClampNeg), .int (xs (i9 + (4 : Int32)).toNatClampNeg), .int (xs (i9 + (5 : Int32)).toNatClampNeg)]) (rest := [.int (bI z13)]) (fun u9 => (kLL cB cI dB dI gc me ba rg wa sm mo mb ma on wt ht bg al b10 cn (pw z n h c9 sp pc bs) z n h c9 sp pc on wt ht bg cn al cl ie ww (u9.1) (u9.2) bs)) ⟨hx, hb, hml, hown, hws⟩ hK hP hD hS hA hT (c_X4_feed l D dB dI mo mb ma H.size z n h c9 sp pc on wt ht bg cn al cl ie ww th mm bs (xs (i9 + (1 : Int32)).toNatClampNeg) (xs (i9 + (2 : Int32)).toNatClampNeg) (xs (i9 + (3 : Int32)).toNatClampNeg) (xs (i9 + (4 : Int32)).toNatClampNeg) (xs (i9 + (5 : Int32)).toNatClampNeg)) (cwV 5 hws (gw_V mw_76 mw_77 mw_78 mw_5 mw_79) rfl rfl rfl hdX4_feed ⟨Nat.le_of_ble_eq_true rfl, Nat.le_of_ble_eq_true rfl⟩) [6, 7, 8] [0, 1, 2, 3, 4, 5] [2, 3] [0, 1, 2, 3, 4, 5, 6, 7, 8] rfl rfl rfl rfl (by decide) rfl (fun _ => rfl) rfl 6 rfl rfl rfl rfl hl.1 rfl (Nat.le_of_ble_eq_true rfl) dL_law_176 ⟨Nat.le_of_ble_eq_true rfl, Nat.le_of_ble_eq_true rfl⟩ (fun r17 u9 H locs hw16 hP hD hS => ?_)
          obtain ⟨b14, b15⟩ := u9
          obtain ⟨z18, rfl, hw16⟩ := hw16
          have hP : va_P D vwCl (kLL cB cI dB dI gc me ba rg wa sm mo mb ma on wt ht bg al b10 cn (pw z n h c9 sp pc bs) z n h c9 sp pc on wt ht bg cn al cl ie ww b14 b15 bs) H := hP
          have hD : va_D A (kLL cB cI dB dI gc me ba rg wa sm mo mb ma on wt ht bg al b10 cn (pw z n h c9 sp pc bs) z n h c9 sp pc on wt ht bg cn al cl ie ww b14 b15 bs) := hD
          obtain ⟨q9, m9, e3, e4⟩ := s_feed (mm := mm) (th := th) (a1 := (xs (i9 + (1 : Int32)).toNatClampNeg)) (a2 := (xs (i9 + (2 : Int32)).toNatClampNeg)) (a3 := (xs (i9 + (3 : Int32)).toNatClampNeg)) (a4 := (xs (i9 + (4 : Int32)).toNatClampNeg)) (a5 := (xs (i9 + (5 : Int32)).toNatClampNeg))
          have k1 := hw11.trans e3
          have k2 := hw16.trans e4
          cases k1
          cases k2
          refine lv_icmp_eq (tgt := 358) hx hb dL_law_179 (by decide) (fun _ => ?_) (fun c1 => absurd rfl c1)
          obtain ⟨x9, ex9⟩ : ∃ y9 : Int32, y9 = i9 + 6 := ⟨_, rfl⟩
          refine lv_iinc (v := x9) (lv' := [(3, .int x9), (0, .ref b), (1, .ref gc), (2, .ref mo)]) hx hb dL_law_358 hl (k := 3) rfl (by rw [ex9]; rfl) (by decide) rfl (fun ls hl => ?_)
          refine lv_goto (tgt := 18) hx hb dL_law_361 (by decide) ?_
          exact ih (j9 + 6) x9 (by omega) (by omega) (by rw [ex9, ei9]; exact nI_add j9 6) _ _ _ _ _ _ _ _ _ _ _ _ _ _ _ _ _ _ hI H locs hP hD hS ls (lv_sub hl [1, 2, 3, 0] rfl)
        · skip
          by_cases w2 : (xs i9.toNatClampNeg &&& (15 : Int32)) = (2 : Int32)
          · refine lv_tableIn (off := 151) (tgt := 184) hx hb dL_law_33 (by rw [w2]; decide) (by rw [w2]; decide) (by rw [w2]; decide) (by decide) ?_
            refine lv_aload_n hx hb dL_law_184 rfl (lv_at hl 1 rfl) ?_
            refine lv_aload_n hx hb dL_law_185 rfl (lv_at hl 0 rfl) ?_
            refine lv_iload_n hx hb dL_law_186 rfl (lv_at hl 3 rfl) ?_
            refine lv_iconst (v := 1) hx hb dL_law_187 (by decide) ?_
            refine lv_iadd hx hb dL_law_188 ?_
            refine va_sld hx hb hX hbl hbA hS hi1 dL_law_189 ?_
            refine kc_Vi (wr := [(mo, .inr (4, [.ref mb, .ref ma, .int (bI z), .int (bI n), .int (bI h), .int (bI c9), .int sp, .int pc, .int (bI on), .int (bI wt), .int (bI ht), .int (bI bg), .int cn, .int al, .int cl, .int (bI ie), .int (bI ww), .int th])), (mb, .inl (dB, 65536, .inl mm)), (ma, .inl (dI, 8, .inl bs))]) (As := [.int (xs (i9 + (1 : Int32)).toNatClampNeg)]) (rest := []) (fun _ => (kLL cB cI dB dI gc me ba rg wa sm mo mb ma on wt ht bg al mm cn (pw z n h c9 sp pc bs) z n h c9 sp pc on wt ht bg cn al cl ie ww th mm bs)) ⟨hx, hb, hml, hown, hws⟩ hK hP hD hS hA hT (c_X3_peek l D cB cI gc me ba rg wa sm H.size on wt ht bg al mm cn (pw z n h c9 sp pc bs) (xs (i9 + (1 : Int32)).toNatClampNeg)) (cwV 1 hws (gw_V mw_81 mw_82 mw_83 mw_2 mw_84) rfl rfl rfl hdX3_peek ⟨Nat.le_of_ble_eq_true rfl, Nat.le_of_ble_eq_true rfl⟩) [0, 1, 2, 3, 4, 5] [6, 7, 8] [0, 1] [3, 4, 5, 6, 7, 8, 0, 1, 2] rfl rfl rfl rfl (by decide) rfl (fun _ => rfl) rfl 0 rfl rfl rfl rfl hl.1 rfl (Nat.le_of_ble_eq_true rfl) dL_law_190 ⟨Nat.le_of_ble_eq_true rfl, Nat.le_of_ble_eq_true rfl⟩ (fun r20 _ H locs hw19 hP hD hS => ?_)
            have hP : va_P D vwCl (kLL cB cI dB dI gc me ba rg wa sm mo mb ma on wt ht bg al mm cn (pw z n h c9 sp pc bs) z n h c9 sp pc on wt ht bg cn al cl ie ww th mm bs) H := hP
            have hD : va_D A (kLL cB cI dB dI gc me ba rg wa sm mo mb ma on wt ht bg al mm cn (pw z n h c9 sp pc bs) z n h c9 sp pc on wt ht bg cn al cl ie ww th mm bs) := hD
            refine lv_aload_n hx hb dL_law_193 rfl (lv_at hl 2 rfl) ?_
            refine lv_aload_n hx hb dL_law_194 rfl (lv_at hl 0 rfl) ?_
            refine lv_iload_n hx hb dL_law_195 rfl (lv_at hl 3 rfl) ?_
            refine lv_iconst (v := 1) hx hb dL_law_196 (by decide) ?_
            refine lv_iadd hx hb dL_law_197 ?_
            refine va_sld hx hb hX hbl hbA hS hi1 dL_law_198 ?_
            refine kc_Vi (wr := [(gc, .inr (3, [.ref me, .ref rg, .ref sm, .int (bI on), .int (bI wt), .int (bI ht), .int (bI bg), .int al])), (me, .inr (0, [.ref ba, .int cn])), (ba, .inl (cB, 65536, .inl mm)), (rg, .inr (1, [.ref wa])), (wa, .inl (cI, 6, .inl (pw z n h c9 sp pc bs))), (sm, .inr (2, [.ref rg]))]) (As := [.int (xs (i9 + (1 : Int32)).toNatClampNeg)]) (rest := [.int r20]) (fun u9 => (kLL cB cI dB dI gc me ba rg wa sm mo mb ma on wt ht bg al mm cn (pw z n h c9 sp pc bs) z n h c9 sp pc on wt ht bg cn al cl ie ww u9 mm bs)) ⟨hx, hb, hml, hown, hws⟩ hK hP hD hS hA hT (c_X4_peek l D dB dI mo mb ma H.size z n h c9 sp pc on wt ht bg cn al cl ie ww th mm bs (xs (i9 + (1 : Int32)).toNatClampNeg)) (cwV 1 hws (gw_V mw_89 mw_90 mw_91 mw_5 mw_92) rfl rfl rfl hdX4_peek ⟨Nat.le_of_ble_eq_true rfl, Nat.le_of_ble_eq_true rfl⟩) [6, 7, 8] [0, 1, 2, 3, 4, 5] [2, 3] [0, 1, 2, 3, 4, 5, 6, 7, 8] rfl rfl rfl rfl (by decide) rfl (fun _ => rfl) rfl 6 rfl rfl rfl rfl hl.1 rfl (Nat.le_of_ble_eq_true rfl) dL_law_199 ⟨Nat.le_of_ble_eq_true rfl, Nat.le_of_ble_eq_true rfl⟩ (fun r23 b21 H locs hw22 hP hD hS => ?_)
            have hP : va_P D vwCl (kLL cB cI dB dI gc me ba rg wa sm mo mb ma on wt ht bg al mm cn (pw z n h c9 sp pc bs) z n h c9 sp pc on wt ht bg cn al cl ie ww b21 mm bs) H := hP
            have hD : va_D A (kLL cB cI dB dI gc me ba rg wa sm mo mb ma on wt ht bg al mm cn (pw z n h c9 sp pc bs) z n h c9 sp pc on wt ht bg cn al cl ie ww b21 mm bs) := hD
            have k2 := hw22.trans (s_peek (xs (i9 + (1 : Int32)).toNatClampNeg))
            rw [← hw19] at k2
            cases k2
            refine lv_icmp_eq (tgt := 358) hx hb dL_law_202 (by decide) (fun _ => ?_) (fun c1 => absurd rfl c1)
            obtain ⟨x9, ex9⟩ : ∃ y9 : Int32, y9 = i9 + 6 := ⟨_, rfl⟩
            refine lv_iinc (v := x9) (lv' := [(3, .int x9), (0, .ref b), (1, .ref gc), (2, .ref mo)]) hx hb dL_law_358 hl (k := 3) rfl (by rw [ex9]; rfl) (by decide) rfl (fun ls hl => ?_)
            refine lv_goto (tgt := 18) hx hb dL_law_361 (by decide) ?_
            exact ih (j9 + 6) x9 (by omega) (by omega) (by rw [ex9, ei9]; exact nI_add j9 6) _ _ _ _ _ _ _ _ _ _ _ _ _ _ _ _ _ _ hI H locs hP hD hS ls (lv_sub hl [1, 2, 3, 0] rfl)
          · skip
            by_cases w3 : (xs i9.toNatClampNeg &&& (15 : Int32)) = (3 : Int32)
            · refine lv_tableIn (off := 174) (tgt := 207) hx hb dL_law_33 (by rw [w3]; decide) (by rw [w3]; decide) (by rw [w3]; decide) (by decide) ?_
              refine lv_aload_n hx hb dL_law_207 rfl (lv_at hl 1 rfl) ?_
              refine kc_Vi (wr := [(mo, .inr (4, [.ref mb, .ref ma, .int (bI z), .int (bI n), .int (bI h), .int (bI c9), .int sp, .int pc, .int (bI on), .int (bI wt), .int (bI ht), .int (bI bg), .int cn, .int al, .int cl, .int (bI ie), .int (bI ww), .int th])), (mb, .inl (dB, 65536, .inl mm)), (ma, .inl (dI, 8, .inl bs))]) (As := []) (rest := []) (fun u9 => (kLL cB cI dB dI gc me ba rg wa sm mo mb ma (u9.1) (u9.2.1) (u9.2.2.1) (u9.2.2.2.1) (u9.2.2.2.2.1) (u9.2.2.2.2.2.1) (u9.2.2.2.2.2.2.1) (u9.2.2.2.2.2.2.2) z n h c9 sp pc on wt ht bg cn al cl ie ww th mm bs)) ⟨hx, hb, hml, hown, hws⟩ hK hP hD hS hA hT (c_X3_step l D cB cI gc me ba rg wa sm H.size on wt ht bg al mm cn (pw z n h c9 sp pc bs) ) (cwV 0 hws (gw_V mw_97 mw_98 mw_99 mw_2 mw_100) rfl rfl rfl hdX3_step ⟨Nat.le_of_ble_eq_true rfl, Nat.le_of_ble_eq_true rfl⟩) [0, 1, 2, 3, 4, 5] [6, 7, 8] [0, 1] [3, 4, 5, 6, 7, 8, 0, 1, 2] rfl rfl rfl rfl (by decide) rfl (fun _ => rfl) rfl 0 rfl rfl rfl rfl hl.1 rfl (Nat.le_of_ble_eq_true rfl) dL_law_208 ⟨Nat.le_of_ble_eq_true rfl, Nat.le_of_ble_eq_true rfl⟩ (fun r33 u9 H locs hw32 hP hD hS => ?_)
              obtain ⟨b24, b25, b26, b27, b28, b29, b30, b31⟩ := u9
              have hP : va_P D vwCl (kLL cB cI dB dI gc me ba rg wa sm mo mb ma b24 b25 b26 b27 b28 b29 b30 b31 z n h c9 sp pc on wt ht bg cn al cl ie ww th mm bs) H := hP
              have hD : va_D A (kLL cB cI dB dI gc me ba rg wa sm mo mb ma b24 b25 b26 b27 b28 b29 b30 b31 z n h c9 sp pc on wt ht bg cn al cl ie ww th mm bs) := hD
              refine lv_aload_n hx hb dL_law_211 rfl (lv_at hl 2 rfl) ?_
              refine kc_Vi (wr := [(gc, .inr (3, [.ref me, .ref rg, .ref sm, .int (bI b24), .int (bI b25), .int (bI b26), .int (bI b27), .int b28])), (me, .inr (0, [.ref ba, .int b30])), (ba, .inl (cB, 65536, .inl b29)), (rg, .inr (1, [.ref wa])), (wa, .inl (cI, 6, .inl b31)), (sm, .inr (2, [.ref rg]))]) (As := []) (rest := [.int r33]) (fun u9 => (kLL cB cI dB dI gc me ba rg wa sm mo mb ma b24 b25 b26 b27 b28 b29 b30 b31 (u9.1) (u9.2.1) (u9.2.2.1) (u9.2.2.2.1) (u9.2.2.2.2.1) (u9.2.2.2.2.2.1) (u9.2.2.2.2.2.2.1) (u9.2.2.2.2.2.2.2.1) (u9.2.2.2.2.2.2.2.2.1) (u9.2.2.2.2.2.2.2.2.2.1) (u9.2.2.2.2.2.2.2.2.2.2.1) (u9.2.2.2.2.2.2.2.2.2.2.2.1) (u9.2.2.2.2.2.2.2.2.2.2.2.2.1) (u9.2.2.2.2.2.2.2.2.2.2.2.2.2.1) (u9.2.2.2.2.2.2.2.2.2.2.2.2.2.2.1) (u9.2.2.2.2.2.2.2.2.2.2.2.2.2.2.2.1) (u9.2.2.2.2.2.2.2.2.2.2.2.2.2.2.2.2.1) (u9.2.2.2.2.2.2.2.2.2.2.2.2.2.2.2.2.2))) ⟨hx, hb, hml, hown, hws⟩ hK hP hD hS hA hT (c_X4_step l D dB dI mo mb ma H.size z n h c9 sp pc on wt ht bg cn al cl ie ww th mm bs ) (cwV 0 hws (gw_V mw_362 mw_363 mw_364 mw_5 mw_365) rfl rfl rfl hdX4_step ⟨Nat.le_of_ble_eq_true rfl, Nat.le_of_ble_eq_true rfl⟩) [6, 7, 8] [0, 1, 2, 3, 4, 5] [2, 3] [0, 1, 2, 3, 4, 5, 6, 7, 8] rfl rfl rfl rfl (by decide) rfl (fun _ => rfl) rfl 6 rfl rfl rfl rfl hl.1 rfl (Nat.le_of_ble_eq_true rfl) dL_law_212 ⟨Nat.le_of_ble_eq_true rfl, Nat.le_of_ble_eq_true rfl⟩ (fun r53 u9 H locs hw52 hP hD hS => ?_)
              obtain ⟨b34, b35, b36, b37, b38, b39, b40, b41, b42, b43, b44, b45, b46, b47, b48, b49, b50, b51⟩ := u9
              have hP : va_P D vwCl (kLL cB cI dB dI gc me ba rg wa sm mo mb ma b24 b25 b26 b27 b28 b29 b30 b31 b34 b35 b36 b37 b38 b39 b40 b41 b42 b43 b44 b45 b46 b47 b48 b49 b50 b51) H := hP
              have hD : va_D A (kLL cB cI dB dI gc me ba rg wa sm mo mb ma b24 b25 b26 b27 b28 b29 b30 b31 b34 b35 b36 b37 b38 b39 b40 b41 b42 b43 b44 b45 b46 b47 b48 b49 b50 b51) := hD
              obtain ⟨r9, z2, n2, h2, c2, sp2, pc2, on2, wt2, ht2, bg2, cn2, al2, cl2, ie2, ww2, th2, mm2, bs2, e3, e4, hI⟩ := s_stepP (z := z) (n := n) (h := h) (c := c9) (on := on) (ht := ht) (cn := cn) (al := al) (cl := cl) (ie := ie) (ww := ww) (th := th) (mm := mm) hI 
              have k1 := hw32.trans e3
              have k2 := hw52.trans e4
              cases k1
              cases k2
              refine lv_icmp_eq (tgt := 358) hx hb dL_law_215 (by decide) (fun _ => ?_) (fun c1 => absurd rfl c1)
              obtain ⟨x9, ex9⟩ : ∃ y9 : Int32, y9 = i9 + 6 := ⟨_, rfl⟩
              refine lv_iinc (v := x9) (lv' := [(3, .int x9), (0, .ref b), (1, .ref gc), (2, .ref mo)]) hx hb dL_law_358 hl (k := 3) rfl (by rw [ex9]; rfl) (by decide) rfl (fun ls hl => ?_)
              refine lv_goto (tgt := 18) hx hb dL_law_361 (by decide) ?_
              exact ih (j9 + 6) x9 (by omega) (by omega) (by rw [ex9, ei9]; exact nI_add j9 6) _ _ _ _ _ _ _ _ _ _ _ _ _ _ _ _ _ _ hI H locs hP hD hS ls (lv_sub hl [1, 2, 3, 0] rfl)
            · skip
              by_cases w4 : (xs i9.toNatClampNeg &&& (15 : Int32)) = (4 : Int32)
              · refine lv_tableIn (off := 187) (tgt := 220) hx hb dL_law_33 (by rw [w4]; decide) (by rw [w4]; decide) (by rw [w4]; decide) (by decide) ?_
                refine lv_aload_n hx hb dL_law_220 rfl (lv_at hl 1 rfl) ?_
                refine lv_aload_n hx hb dL_law_221 rfl (lv_at hl 0 rfl) ?_
                refine lv_iload_n hx hb dL_law_222 rfl (lv_at hl 3 rfl) ?_
                refine lv_iconst (v := 1) hx hb dL_law_223 (by decide) ?_
                refine lv_iadd hx hb dL_law_224 ?_
                refine va_sld hx hb hX hbl hbA hS hi1 dL_law_225 ?_
                refine kc_Vi (wr := [(mo, .inr (4, [.ref mb, .ref ma, .int (bI z), .int (bI n), .int (bI h), .int (bI c9), .int sp, .int pc, .int (bI on), .int (bI wt), .int (bI ht), .int (bI bg), .int cn, .int al, .int cl, .int (bI ie), .int (bI ww), .int th])), (mb, .inl (dB, 65536, .inl mm)), (ma, .inl (dI, 8, .inl bs))]) (As := [.int (xs (i9 + (1 : Int32)).toNatClampNeg)]) (rest := []) (fun u9 => (kLL cB cI dB dI gc me ba rg wa sm mo mb ma (u9.1) (u9.2.1) (u9.2.2.1) (u9.2.2.2.1) (u9.2.2.2.2.1) (u9.2.2.2.2.2.1) (u9.2.2.2.2.2.2.1) (u9.2.2.2.2.2.2.2) z n h c9 sp pc on wt ht bg cn al cl ie ww th mm bs)) ⟨hx, hb, hml, hown, hws⟩ hK hP hD hS hA hT (c_X3_run l D cB cI gc me ba rg wa sm H.size on wt ht bg al mm cn (pw z n h c9 sp pc bs) (xs (i9 + (1 : Int32)).toNatClampNeg)) (cwV 1 hws (gw_V mw_567 mw_568 mw_569 mw_2 mw_570) rfl rfl rfl hdX3_run ⟨Nat.le_of_ble_eq_true rfl, Nat.le_of_ble_eq_true rfl⟩) [0, 1, 2, 3, 4, 5] [6, 7, 8] [0, 1] [3, 4, 5, 6, 7, 8, 0, 1, 2] rfl rfl rfl rfl (by decide) rfl (fun _ => rfl) rfl 0 rfl rfl rfl rfl hl.1 rfl (Nat.le_of_ble_eq_true rfl) dL_law_226 ⟨Nat.le_of_ble_eq_true rfl, Nat.le_of_ble_eq_true rfl⟩ (fun r63 u9 H locs hw62 hP hD hS => ?_)
                obtain ⟨b54, b55, b56, b57, b58, b59, b60, b61⟩ := u9
                have hP : va_P D vwCl (kLL cB cI dB dI gc me ba rg wa sm mo mb ma b54 b55 b56 b57 b58 b59 b60 b61 z n h c9 sp pc on wt ht bg cn al cl ie ww th mm bs) H := hP
                have hD : va_D A (kLL cB cI dB dI gc me ba rg wa sm mo mb ma b54 b55 b56 b57 b58 b59 b60 b61 z n h c9 sp pc on wt ht bg cn al cl ie ww th mm bs) := hD
                refine lv_aload_n hx hb dL_law_229 rfl (lv_at hl 2 rfl) ?_
                refine lv_aload_n hx hb dL_law_230 rfl (lv_at hl 0 rfl) ?_
                refine lv_iload_n hx hb dL_law_231 rfl (lv_at hl 3 rfl) ?_
                refine lv_iconst (v := 1) hx hb dL_law_232 (by decide) ?_
                refine lv_iadd hx hb dL_law_233 ?_
                refine va_sld hx hb hX hbl hbA hS hi1 dL_law_234 ?_
                refine kc_Vi (wr := [(gc, .inr (3, [.ref me, .ref rg, .ref sm, .int (bI b54), .int (bI b55), .int (bI b56), .int (bI b57), .int b58])), (me, .inr (0, [.ref ba, .int b60])), (ba, .inl (cB, 65536, .inl b59)), (rg, .inr (1, [.ref wa])), (wa, .inl (cI, 6, .inl b61)), (sm, .inr (2, [.ref rg]))]) (As := [.int (xs (i9 + (1 : Int32)).toNatClampNeg)]) (rest := [.int r63]) (fun u9 => (kLL cB cI dB dI gc me ba rg wa sm mo mb ma b54 b55 b56 b57 b58 b59 b60 b61 (u9.1) (u9.2.1) (u9.2.2.1) (u9.2.2.2.1) (u9.2.2.2.2.1) (u9.2.2.2.2.2.1) (u9.2.2.2.2.2.2.1) (u9.2.2.2.2.2.2.2.1) (u9.2.2.2.2.2.2.2.2.1) (u9.2.2.2.2.2.2.2.2.2.1) (u9.2.2.2.2.2.2.2.2.2.2.1) (u9.2.2.2.2.2.2.2.2.2.2.2.1) (u9.2.2.2.2.2.2.2.2.2.2.2.2.1) (u9.2.2.2.2.2.2.2.2.2.2.2.2.2.1) (u9.2.2.2.2.2.2.2.2.2.2.2.2.2.2.1) (u9.2.2.2.2.2.2.2.2.2.2.2.2.2.2.2.1) (u9.2.2.2.2.2.2.2.2.2.2.2.2.2.2.2.2.1) (u9.2.2.2.2.2.2.2.2.2.2.2.2.2.2.2.2.2))) ⟨hx, hb, hml, hown, hws⟩ hK hP hD hS hA hT (c_X4_run l D dB dI mo mb ma H.size z n h c9 sp pc on wt ht bg cn al cl ie ww th mm bs (xs (i9 + (1 : Int32)).toNatClampNeg)) (cwV 1 hws (gw_V mw_571 mw_572 mw_573 mw_5 mw_574) rfl rfl rfl hdX4_run ⟨Nat.le_of_ble_eq_true rfl, Nat.le_of_ble_eq_true rfl⟩) [6, 7, 8] [0, 1, 2, 3, 4, 5] [2, 3] [0, 1, 2, 3, 4, 5, 6, 7, 8] rfl rfl rfl rfl (by decide) rfl (fun _ => rfl) rfl 6 rfl rfl rfl rfl hl.1 rfl (Nat.le_of_ble_eq_true rfl) dL_law_235 ⟨Nat.le_of_ble_eq_true rfl, Nat.le_of_ble_eq_true rfl⟩ (fun r83 u9 H locs hw82 hP hD hS => ?_)
                obtain ⟨b64, b65, b66, b67, b68, b69, b70, b71, b72, b73, b74, b75, b76, b77, b78, b79, b80, b81⟩ := u9
                have hP : va_P D vwCl (kLL cB cI dB dI gc me ba rg wa sm mo mb ma b54 b55 b56 b57 b58 b59 b60 b61 b64 b65 b66 b67 b68 b69 b70 b71 b72 b73 b74 b75 b76 b77 b78 b79 b80 b81) H := hP
                have hD : va_D A (kLL cB cI dB dI gc me ba rg wa sm mo mb ma b54 b55 b56 b57 b58 b59 b60 b61 b64 b65 b66 b67 b68 b69 b70 b71 b72 b73 b74 b75 b76 b77 b78 b79 b80 b81) := hD
                obtain ⟨r9, z2, n2, h2, c2, sp2, pc2, on2, wt2, ht2, bg2, cn2, al2, cl2, ie2, ww2, th2, mm2, bs2, e3, e4, hI⟩ := s_run (z := z) (n := n) (h := h) (c := c9) (on := on) (ht := ht) (cn := cn) (al := al) (cl := cl) (ie := ie) (ww := ww) (th := th) (mm := mm) hI (xs (i9 + (1 : Int32)).toNatClampNeg)
                have k1 := hw62.trans e3
                have k2 := hw82.trans e4
                cases k1
                cases k2
                refine lv_icmp_eq (tgt := 358) hx hb dL_law_238 (by decide) (fun _ => ?_) (fun c1 => absurd rfl c1)
                obtain ⟨x9, ex9⟩ : ∃ y9 : Int32, y9 = i9 + 6 := ⟨_, rfl⟩
                refine lv_iinc (v := x9) (lv' := [(3, .int x9), (0, .ref b), (1, .ref gc), (2, .ref mo)]) hx hb dL_law_358 hl (k := 3) rfl (by rw [ex9]; rfl) (by decide) rfl (fun ls hl => ?_)
                refine lv_goto (tgt := 18) hx hb dL_law_361 (by decide) ?_
                exact ih (j9 + 6) x9 (by omega) (by omega) (by rw [ex9, ei9]; exact nI_add j9 6) _ _ _ _ _ _ _ _ _ _ _ _ _ _ _ _ _ _ hI H locs hP hD hS ls (lv_sub hl [1, 2, 3, 0] rfl)
              · skip
                by_cases w5 : (xs i9.toNatClampNeg &&& (15 : Int32)) = (5 : Int32)
                · refine lv_tableIn (off := 210) (tgt := 243) hx hb dL_law_33 (by rw [w5]; decide) (by rw [w5]; decide) (by rw [w5]; decide) (by decide) ?_
                  refine lv_aload_n hx hb dL_law_243 rfl (lv_at hl 1 rfl) ?_
                  refine lv_aload_n hx hb dL_law_244 rfl (lv_at hl 0 rfl) ?_
                  refine lv_iload_n hx hb dL_law_245 rfl (lv_at hl 3 rfl) ?_
                  refine lv_iconst (v := 1) hx hb dL_law_246 (by decide) ?_
                  refine lv_iadd hx hb dL_law_247 ?_
                  refine va_sld hx hb hX hbl hbA hS hi1 dL_law_248 ?_
                  refine kc_Vi (wr := [(mo, .inr (4, [.ref mb, .ref ma, .int (bI z), .int (bI n), .int (bI h), .int (bI c9), .int sp, .int pc, .int (bI on), .int (bI wt), .int (bI ht), .int (bI bg), .int cn, .int al, .int cl, .int (bI ie), .int (bI ww), .int th])), (mb, .inl (dB, 65536, .inl mm)), (ma, .inl (dI, 8, .inl bs))]) (As := [.int (xs (i9 + (1 : Int32)).toNatClampNeg)]) (rest := []) (fun u9 => (kLL cB cI dB dI gc me ba rg wa sm mo mb ma on wt ht bg al u9 cn (pw z n h c9 sp pc bs) z n h c9 sp pc on wt ht bg cn al cl ie ww th mm bs)) ⟨hx, hb, hml, hown, hws⟩ hK hP hD hS hA hT (c_X3_request l D cB cI gc me ba rg wa sm H.size on wt ht bg al mm cn (pw z n h c9 sp pc bs) (xs (i9 + (1 : Int32)).toNatClampNeg)) (cwV 1 hws (gw_V mw_576 mw_577 mw_578 mw_2 mw_579) rfl rfl rfl hdX3_request ⟨Nat.le_of_ble_eq_true rfl, Nat.le_of_ble_eq_true rfl⟩) [0, 1, 2, 3, 4, 5] [6, 7, 8] [0, 1] [3, 4, 5, 6, 7, 8, 0, 1, 2] rfl rfl rfl rfl (by decide) rfl (fun _ => rfl) rfl 0 rfl rfl rfl rfl hl.1 rfl (Nat.le_of_ble_eq_true rfl) dL_law_249 ⟨Nat.le_of_ble_eq_true rfl, Nat.le_of_ble_eq_true rfl⟩ (fun r86 b84 H locs hw85 hP hD hS => ?_)
                  obtain ⟨z87, rfl, hw85⟩ := hw85
                  have hP : va_P D vwCl (kLL cB cI dB dI gc me ba rg wa sm mo mb ma on wt ht bg al b84 cn (pw z n h c9 sp pc bs) z n h c9 sp pc on wt ht bg cn al cl ie ww th mm bs) H := hP
                  have hD : va_D A (kLL cB cI dB dI gc me ba rg wa sm mo mb ma on wt ht bg al b84 cn (pw z n h c9 sp pc bs) z n h c9 sp pc on wt ht bg cn al cl ie ww th mm bs) := hD
                  refine lv_aload_n hx hb dL_law_252 rfl (lv_at hl 2 rfl) ?_
                  refine lv_aload_n hx hb dL_law_253 rfl (lv_at hl 0 rfl) ?_
                  refine lv_iload_n hx hb dL_law_254 rfl (lv_at hl 3 rfl) ?_
                  refine lv_iconst (v := 1) hx hb dL_law_255 (by decide) ?_
                  refine lv_iadd hx hb dL_law_256 ?_
                  refine va_sld hx hb hX hbl hbA hS hi1 dL_law_257 ?_
                  refine kc_Vi (wr := [(gc, .inr (3, [.ref me, .ref rg, .ref sm, .int (bI on), .int (bI wt), .int (bI ht), .int (bI bg), .int al])), (me, .inr (0, [.ref ba, .int cn])), (ba, .inl (cB, 65536, .inl b84)), (rg, .inr (1, [.ref wa])), (wa, .inl (cI, 6, .inl (pw z n h c9 sp pc bs))), (sm, .inr (2, [.ref rg]))]) (As := [.int (xs (i9 + (1 : Int32)).toNatClampNeg)]) (rest := [.int (bI z87)]) (fun u9 => (kLL cB cI dB dI gc me ba rg wa sm mo mb ma on wt ht bg al b84 cn (pw z n h c9 sp pc bs) z n h c9 sp pc on wt ht bg cn al cl ie ww (u9.1) (u9.2) bs)) ⟨hx, hb, hml, hown, hws⟩ hK hP hD hS hA hT (c_X4_request l D dB dI mo mb ma H.size z n h c9 sp pc on wt ht bg cn al cl ie ww th mm bs (xs (i9 + (1 : Int32)).toNatClampNeg)) (cwV 1 hws (gw_V mw_581 mw_582 mw_583 mw_5 mw_584) rfl rfl rfl hdX4_request ⟨Nat.le_of_ble_eq_true rfl, Nat.le_of_ble_eq_true rfl⟩) [6, 7, 8] [0, 1, 2, 3, 4, 5] [2, 3] [0, 1, 2, 3, 4, 5, 6, 7, 8] rfl rfl rfl rfl (by decide) rfl (fun _ => rfl) rfl 6 rfl rfl rfl rfl hl.1 rfl (Nat.le_of_ble_eq_true rfl) dL_law_258 ⟨Nat.le_of_ble_eq_true rfl, Nat.le_of_ble_eq_true rfl⟩ (fun r91 u9 H locs hw90 hP hD hS => ?_)
                  obtain ⟨b88, b89⟩ := u9
                  obtain ⟨z92, rfl, hw90⟩ := hw90
                  have hP : va_P D vwCl (kLL cB cI dB dI gc me ba rg wa sm mo mb ma on wt ht bg al b84 cn (pw z n h c9 sp pc bs) z n h c9 sp pc on wt ht bg cn al cl ie ww b88 b89 bs) H := hP
                  have hD : va_D A (kLL cB cI dB dI gc me ba rg wa sm mo mb ma on wt ht bg al b84 cn (pw z n h c9 sp pc bs) z n h c9 sp pc on wt ht bg cn al cl ie ww b88 b89 bs) := hD
                  obtain ⟨q9, m9, e3, e4⟩ := s_request (mm := mm) (th := th) (xs (i9 + (1 : Int32)).toNatClampNeg)
                  have k1 := hw85.trans e3
                  have k2 := hw90.trans e4
                  cases k1
                  cases k2
                  refine lv_icmp_eq (tgt := 358) hx hb dL_law_261 (by decide) (fun _ => ?_) (fun c1 => absurd rfl c1)
                  obtain ⟨x9, ex9⟩ : ∃ y9 : Int32, y9 = i9 + 6 := ⟨_, rfl⟩
                  refine lv_iinc (v := x9) (lv' := [(3, .int x9), (0, .ref b), (1, .ref gc), (2, .ref mo)]) hx hb dL_law_358 hl (k := 3) rfl (by rw [ex9]; rfl) (by decide) rfl (fun ls hl => ?_)
                  refine lv_goto (tgt := 18) hx hb dL_law_361 (by decide) ?_
                  exact ih (j9 + 6) x9 (by omega) (by omega) (by rw [ex9, ei9]; exact nI_add j9 6) _ _ _ _ _ _ _ _ _ _ _ _ _ _ _ _ _ _ hI H locs hP hD hS ls (lv_sub hl [1, 2, 3, 0] rfl)
                · skip
                  by_cases w6 : (xs i9.toNatClampNeg &&& (15 : Int32)) = (6 : Int32)
                  · refine lv_tableIn (off := 233) (tgt := 266) hx hb dL_law_33 (by rw [w6]; decide) (by rw [w6]; decide) (by rw [w6]; decide) (by decide) ?_
                    refine lv_aload_n hx hb dL_law_266 rfl (lv_at hl 1 rfl) ?_
                    refine lv_aload_n hx hb dL_law_267 rfl (lv_at hl 0 rfl) ?_
                    refine lv_iload_n hx hb dL_law_268 rfl (lv_at hl 3 rfl) ?_
                    refine lv_iconst (v := 1) hx hb dL_law_269 (by decide) ?_
                    refine lv_iadd hx hb dL_law_270 ?_
                    refine va_sld hx hb hX hbl hbA hS hi1 dL_law_271 ?_
                    refine kc_Vi (wr := [(mo, .inr (4, [.ref mb, .ref ma, .int (bI z), .int (bI n), .int (bI h), .int (bI c9), .int sp, .int pc, .int (bI on), .int (bI wt), .int (bI ht), .int (bI bg), .int cn, .int al, .int cl, .int (bI ie), .int (bI ww), .int th])), (mb, .inl (dB, 65536, .inl mm)), (ma, .inl (dI, 8, .inl bs))]) (As := [.int (xs (i9 + (1 : Int32)).toNatClampNeg)]) (rest := []) (fun _ => (kLL cB cI dB dI gc me ba rg wa sm mo mb ma on wt ht bg al mm cn (pw z n h c9 sp pc bs) z n h c9 sp pc on wt ht bg cn al cl ie ww th mm bs)) ⟨hx, hb, hml, hown, hws⟩ hK hP hD hS hA hT (c_X3_reg l D cB cI gc me ba rg wa sm H.size on wt ht bg al mm cn (pw z n h c9 sp pc bs) (xs (i9 + (1 : Int32)).toNatClampNeg)) (cwV 1 hws (gw_V mw_585 mw_586 mw_587 mw_2 mw_588) rfl rfl rfl hdX3_reg ⟨Nat.le_of_ble_eq_true rfl, Nat.le_of_ble_eq_true rfl⟩) [0, 1, 2, 3, 4, 5] [6, 7, 8] [0, 1] [3, 4, 5, 6, 7, 8, 0, 1, 2] rfl rfl rfl rfl (by decide) rfl (fun _ => rfl) rfl 0 rfl rfl rfl rfl hl.1 rfl (Nat.le_of_ble_eq_true rfl) dL_law_272 ⟨Nat.le_of_ble_eq_true rfl, Nat.le_of_ble_eq_true rfl⟩ (fun r94 _ H locs hw93 hP hD hS => ?_)
                    have hP : va_P D vwCl (kLL cB cI dB dI gc me ba rg wa sm mo mb ma on wt ht bg al mm cn (pw z n h c9 sp pc bs) z n h c9 sp pc on wt ht bg cn al cl ie ww th mm bs) H := hP
                    have hD : va_D A (kLL cB cI dB dI gc me ba rg wa sm mo mb ma on wt ht bg al mm cn (pw z n h c9 sp pc bs) z n h c9 sp pc on wt ht bg cn al cl ie ww th mm bs) := hD
                    refine lv_aload_n hx hb dL_law_275 rfl (lv_at hl 2 rfl) ?_
                    refine lv_aload_n hx hb dL_law_276 rfl (lv_at hl 0 rfl) ?_
                    refine lv_iload_n hx hb dL_law_277 rfl (lv_at hl 3 rfl) ?_
                    refine lv_iconst (v := 1) hx hb dL_law_278 (by decide) ?_
                    refine lv_iadd hx hb dL_law_279 ?_
                    refine va_sld hx hb hX hbl hbA hS hi1 dL_law_280 ?_
                    refine kc_Vi (wr := [(gc, .inr (3, [.ref me, .ref rg, .ref sm, .int (bI on), .int (bI wt), .int (bI ht), .int (bI bg), .int al])), (me, .inr (0, [.ref ba, .int cn])), (ba, .inl (cB, 65536, .inl mm)), (rg, .inr (1, [.ref wa])), (wa, .inl (cI, 6, .inl (pw z n h c9 sp pc bs))), (sm, .inr (2, [.ref rg]))]) (As := [.int (xs (i9 + (1 : Int32)).toNatClampNeg)]) (rest := [.int r94]) (fun u9 => (kLL cB cI dB dI gc me ba rg wa sm mo mb ma on wt ht bg al mm cn (pw z n h c9 sp pc bs) z n h c9 sp pc on wt ht bg cn al cl ie ww u9 mm bs)) ⟨hx, hb, hml, hown, hws⟩ hK hP hD hS hA hT (c_X4_reg l D dB dI mo mb ma H.size z n h c9 sp pc on wt ht bg cn al cl ie ww th mm bs (xs (i9 + (1 : Int32)).toNatClampNeg)) (cwV 1 hws (gw_V mw_589 mw_590 mw_591 mw_5 mw_592) rfl rfl rfl hdX4_reg ⟨Nat.le_of_ble_eq_true rfl, Nat.le_of_ble_eq_true rfl⟩) [6, 7, 8] [0, 1, 2, 3, 4, 5] [2, 3] [0, 1, 2, 3, 4, 5, 6, 7, 8] rfl rfl rfl rfl (by decide) rfl (fun _ => rfl) rfl 6 rfl rfl rfl rfl hl.1 rfl (Nat.le_of_ble_eq_true rfl) dL_law_281 ⟨Nat.le_of_ble_eq_true rfl, Nat.le_of_ble_eq_true rfl⟩ (fun r97 b95 H locs hw96 hP hD hS => ?_)
                    have hP : va_P D vwCl (kLL cB cI dB dI gc me ba rg wa sm mo mb ma on wt ht bg al mm cn (pw z n h c9 sp pc bs) z n h c9 sp pc on wt ht bg cn al cl ie ww b95 mm bs) H := hP
                    have hD : va_D A (kLL cB cI dB dI gc me ba rg wa sm mo mb ma on wt ht bg al mm cn (pw z n h c9 sp pc bs) z n h c9 sp pc on wt ht bg cn al cl ie ww b95 mm bs) := hD
                    have k2 := hw96.trans (s_reg (xs (i9 + (1 : Int32)).toNatClampNeg))
                    rw [← hw93] at k2
                    cases k2
                    refine lv_icmp_eq (tgt := 358) hx hb dL_law_284 (by decide) (fun _ => ?_) (fun c1 => absurd rfl c1)
                    obtain ⟨x9, ex9⟩ : ∃ y9 : Int32, y9 = i9 + 6 := ⟨_, rfl⟩
                    refine lv_iinc (v := x9) (lv' := [(3, .int x9), (0, .ref b), (1, .ref gc), (2, .ref mo)]) hx hb dL_law_358 hl (k := 3) rfl (by rw [ex9]; rfl) (by decide) rfl (fun ls hl => ?_)
                    refine lv_goto (tgt := 18) hx hb dL_law_361 (by decide) ?_
                    exact ih (j9 + 6) x9 (by omega) (by omega) (by rw [ex9, ei9]; exact nI_add j9 6) _ _ _ _ _ _ _ _ _ _ _ _ _ _ _ _ _ _ hI H locs hP hD hS ls (lv_sub hl [1, 2, 3, 0] rfl)
                  · skip
                    by_cases w7 : (xs i9.toNatClampNeg &&& (15 : Int32)) = (7 : Int32)
                    · refine lv_tableIn (off := 256) (tgt := 289) hx hb dL_law_33 (by rw [w7]; decide) (by rw [w7]; decide) (by rw [w7]; decide) (by decide) ?_
                      refine lv_aload_n hx hb dL_law_289 rfl (lv_at hl 1 rfl) ?_
                      refine lv_aload_n hx hb dL_law_290 rfl (lv_at hl 0 rfl) ?_
                      refine lv_iload_n hx hb dL_law_291 rfl (lv_at hl 3 rfl) ?_
                      refine lv_iconst (v := 1) hx hb dL_law_292 (by decide) ?_
                      refine lv_iadd hx hb dL_law_293 ?_
                      refine va_sld hx hb hX hbl hbA hS hi1 dL_law_294 ?_
                      refine lv_aload_n hx hb dL_law_295 rfl (lv_at hl 0 rfl) ?_
                      refine lv_iload_n hx hb dL_law_296 rfl (lv_at hl 3 rfl) ?_
                      refine lv_iconst (v := 2) hx hb dL_law_297 (by decide) ?_
                      refine lv_iadd hx hb dL_law_298 ?_
                      refine va_sld hx hb hX hbl hbA hS hi2 dL_law_299 ?_
                      refine kc_Vi (wr := [(mo, .inr (4, [.ref mb, .ref ma, .int (bI z), .int (bI n), .int (bI h), .int (bI c9), .int sp, .int pc, .int (bI on), .int (bI wt), .int (bI ht), .int (bI bg), .int cn, .int al, .int cl, .int (bI ie), .int (bI ww), .int th])), (mb, .inl (dB, 65536, .inl mm)), (ma, .inl (dI, 8, .inl bs))]) (As := [.int (xs (i9 + (1 : Int32)).toNatClampNeg), .int (xs (i9 + (2 : Int32)).toNatClampNeg)]) (rest := []) (fun u9 => (kLL cB cI dB dI gc me ba rg wa sm mo mb ma on wt ht bg al mm cn u9 z n h c9 sp pc on wt ht bg cn al cl ie ww th mm bs)) ⟨hx, hb, hml, hown, hws⟩ hK hP hD hS hA hT (c_X3_set l D cB cI gc me ba rg wa sm H.size on wt ht bg al mm cn (pw z n h c9 sp pc bs) (xs (i9 + (1 : Int32)).toNatClampNeg) (xs (i9 + (2 : Int32)).toNatClampNeg)) (cwV 2 hws (gw_V mw_593 mw_594 mw_595 mw_2 mw_596) rfl rfl rfl hdX3_set ⟨Nat.le_of_ble_eq_true rfl, Nat.le_of_ble_eq_true rfl⟩) [0, 1, 2, 3, 4, 5] [6, 7, 8] [0, 1] [3, 4, 5, 6, 7, 8, 0, 1, 2] rfl rfl rfl rfl (by decide) rfl (fun _ => rfl) rfl 0 rfl rfl rfl rfl hl.1 rfl (Nat.le_of_ble_eq_true rfl) dL_law_300 ⟨Nat.le_of_ble_eq_true rfl, Nat.le_of_ble_eq_true rfl⟩ (fun r100 b98 H locs hw99 hP hD hS => ?_)
                      obtain ⟨z101, rfl, hw99⟩ := hw99
                      have hP : va_P D vwCl (kLL cB cI dB dI gc me ba rg wa sm mo mb ma on wt ht bg al mm cn b98 z n h c9 sp pc on wt ht bg cn al cl ie ww th mm bs) H := hP
                      have hD : va_D A (kLL cB cI dB dI gc me ba rg wa sm mo mb ma on wt ht bg al mm cn b98 z n h c9 sp pc on wt ht bg cn al cl ie ww th mm bs) := hD
                      refine lv_aload_n hx hb dL_law_303 rfl (lv_at hl 2 rfl) ?_
                      refine lv_aload_n hx hb dL_law_304 rfl (lv_at hl 0 rfl) ?_
                      refine lv_iload_n hx hb dL_law_305 rfl (lv_at hl 3 rfl) ?_
                      refine lv_iconst (v := 1) hx hb dL_law_306 (by decide) ?_
                      refine lv_iadd hx hb dL_law_307 ?_
                      refine va_sld hx hb hX hbl hbA hS hi1 dL_law_308 ?_
                      refine lv_aload_n hx hb dL_law_309 rfl (lv_at hl 0 rfl) ?_
                      refine lv_iload_n hx hb dL_law_310 rfl (lv_at hl 3 rfl) ?_
                      refine lv_iconst (v := 2) hx hb dL_law_311 (by decide) ?_
                      refine lv_iadd hx hb dL_law_312 ?_
                      refine va_sld hx hb hX hbl hbA hS hi2 dL_law_313 ?_
                      refine kc_Vi (wr := [(gc, .inr (3, [.ref me, .ref rg, .ref sm, .int (bI on), .int (bI wt), .int (bI ht), .int (bI bg), .int al])), (me, .inr (0, [.ref ba, .int cn])), (ba, .inl (cB, 65536, .inl mm)), (rg, .inr (1, [.ref wa])), (wa, .inl (cI, 6, .inl b98)), (sm, .inr (2, [.ref rg]))]) (As := [.int (xs (i9 + (1 : Int32)).toNatClampNeg), .int (xs (i9 + (2 : Int32)).toNatClampNeg)]) (rest := [.int (bI z101)]) (fun u9 => (kLL cB cI dB dI gc me ba rg wa sm mo mb ma on wt ht bg al mm cn b98 (u9.1) (u9.2.1) (u9.2.2.1) (u9.2.2.2.1) (u9.2.2.2.2.1) (u9.2.2.2.2.2.1) on wt ht bg cn al cl ie ww (u9.2.2.2.2.2.2.1) mm (u9.2.2.2.2.2.2.2))) ⟨hx, hb, hml, hown, hws⟩ hK hP hD hS hA hT (c_X4_set l D dB dI mo mb ma H.size z n h c9 sp pc on wt ht bg cn al cl ie ww th mm bs (xs (i9 + (1 : Int32)).toNatClampNeg) (xs (i9 + (2 : Int32)).toNatClampNeg)) (cwV 2 hws (gw_V mw_597 mw_598 mw_599 mw_5 mw_600) rfl rfl rfl hdX4_set ⟨Nat.le_of_ble_eq_true rfl, Nat.le_of_ble_eq_true rfl⟩) [6, 7, 8] [0, 1, 2, 3, 4, 5] [2, 3] [0, 1, 2, 3, 4, 5, 6, 7, 8] rfl rfl rfl rfl (by decide) rfl (fun _ => rfl) rfl 6 rfl rfl rfl rfl hl.1 rfl (Nat.le_of_ble_eq_true rfl) dL_law_314 ⟨Nat.le_of_ble_eq_true rfl, Nat.le_of_ble_eq_true rfl⟩ (fun r111 u9 H locs hw110 hP hD hS => ?_)
                      obtain ⟨b102, b103, b104, b105, b106, b107, b108, b109⟩ := u9
                      obtain ⟨z112, rfl, hw110⟩ := hw110
                      have hP : va_P D vwCl (kLL cB cI dB dI gc me ba rg wa sm mo mb ma on wt ht bg al mm cn b98 b102 b103 b104 b105 b106 b107 on wt ht bg cn al cl ie ww b108 mm b109) H := hP
                      have hD : va_D A (kLL cB cI dB dI gc me ba rg wa sm mo mb ma on wt ht bg al mm cn b98 b102 b103 b104 b105 b106 b107 on wt ht bg cn al cl ie ww b108 mm b109) := hD
                      obtain ⟨q9, z2, n2, h2, c2, sp2, pc2, bs2, e3, e4, hI⟩ := s_set (z := z) (n := n) (h := h) (c := c9) (th := th) hI (xs (i9 + (1 : Int32)).toNatClampNeg) (xs (i9 + (2 : Int32)).toNatClampNeg)
                      have k1 := hw99.trans e3
                      have k2 := hw110.trans e4
                      cases k1
                      cases k2
                      refine lv_icmp_eq (tgt := 358) hx hb dL_law_317 (by decide) (fun _ => ?_) (fun c1 => absurd rfl c1)
                      obtain ⟨x9, ex9⟩ : ∃ y9 : Int32, y9 = i9 + 6 := ⟨_, rfl⟩
                      refine lv_iinc (v := x9) (lv' := [(3, .int x9), (0, .ref b), (1, .ref gc), (2, .ref mo)]) hx hb dL_law_358 hl (k := 3) rfl (by rw [ex9]; rfl) (by decide) rfl (fun ls hl => ?_)
                      refine lv_goto (tgt := 18) hx hb dL_law_361 (by decide) ?_
                      exact ih (j9 + 6) x9 (by omega) (by omega) (by rw [ex9, ei9]; exact nI_add j9 6) _ _ _ _ _ _ _ _ _ _ _ _ _ _ _ _ _ _ hI H locs hP hD hS ls (lv_sub hl [1, 2, 3, 0] rfl)
                    · skip
                      by_cases w8 : (xs i9.toNatClampNeg &&& (15 : Int32)) = (8 : Int32)
                      · refine lv_tableIn (off := 289) (tgt := 322) hx hb dL_law_33 (by rw [w8]; decide) (by rw [w8]; decide) (by rw [w8]; decide) (by decide) ?_
                        refine lv_aload_n hx hb dL_law_322 rfl (lv_at hl 1 rfl) ?_
                        refine lv_aload_n hx hb dL_law_323 rfl (lv_at hl 0 rfl) ?_
                        refine lv_iload_n hx hb dL_law_324 rfl (lv_at hl 3 rfl) ?_
                        refine lv_iconst (v := 1) hx hb dL_law_325 (by decide) ?_
                        refine lv_iadd hx hb dL_law_326 ?_
                        refine va_sld hx hb hX hbl hbA hS hi1 dL_law_327 ?_
                        refine kc_Vi (wr := [(mo, .inr (4, [.ref mb, .ref ma, .int (bI z), .int (bI n), .int (bI h), .int (bI c9), .int sp, .int pc, .int (bI on), .int (bI wt), .int (bI ht), .int (bI bg), .int cn, .int al, .int cl, .int (bI ie), .int (bI ww), .int th])), (mb, .inl (dB, 65536, .inl mm)), (ma, .inl (dI, 8, .inl bs))]) (As := [.int (xs (i9 + (1 : Int32)).toNatClampNeg)]) (rest := []) (fun _ => (kLL cB cI dB dI gc me ba rg wa sm mo mb ma on wt ht bg al mm cn (pw z n h c9 sp pc bs) z n h c9 sp pc on wt ht bg cn al cl ie ww th mm bs)) ⟨hx, hb, hml, hown, hws⟩ hK hP hD hS hA hT (c_X3_look l D cB cI gc me ba rg wa sm H.size on wt ht bg al mm cn (pw z n h c9 sp pc bs) (xs (i9 + (1 : Int32)).toNatClampNeg)) (cwV 1 hws (gw_V mw_601 mw_602 mw_603 mw_2 mw_604) rfl rfl rfl hdX3_look ⟨Nat.le_of_ble_eq_true rfl, Nat.le_of_ble_eq_true rfl⟩) [0, 1, 2, 3, 4, 5] [6, 7, 8] [0, 1] [3, 4, 5, 6, 7, 8, 0, 1, 2] rfl rfl rfl rfl (by decide) rfl (fun _ => rfl) rfl 0 rfl rfl rfl rfl hl.1 rfl (Nat.le_of_ble_eq_true rfl) dL_law_328 ⟨Nat.le_of_ble_eq_true rfl, Nat.le_of_ble_eq_true rfl⟩ (fun r114 _ H locs hw113 hP hD hS => ?_)
                        have hP : va_P D vwCl (kLL cB cI dB dI gc me ba rg wa sm mo mb ma on wt ht bg al mm cn (pw z n h c9 sp pc bs) z n h c9 sp pc on wt ht bg cn al cl ie ww th mm bs) H := hP
                        have hD : va_D A (kLL cB cI dB dI gc me ba rg wa sm mo mb ma on wt ht bg al mm cn (pw z n h c9 sp pc bs) z n h c9 sp pc on wt ht bg cn al cl ie ww th mm bs) := hD
                        refine lv_aload_n hx hb dL_law_331 rfl (lv_at hl 2 rfl) ?_
                        refine lv_aload_n hx hb dL_law_332 rfl (lv_at hl 0 rfl) ?_
                        refine lv_iload_n hx hb dL_law_333 rfl (lv_at hl 3 rfl) ?_
                        refine lv_iconst (v := 1) hx hb dL_law_334 (by decide) ?_
                        refine lv_iadd hx hb dL_law_335 ?_
                        refine va_sld hx hb hX hbl hbA hS hi1 dL_law_336 ?_
                        refine kc_Vi (wr := [(gc, .inr (3, [.ref me, .ref rg, .ref sm, .int (bI on), .int (bI wt), .int (bI ht), .int (bI bg), .int al])), (me, .inr (0, [.ref ba, .int cn])), (ba, .inl (cB, 65536, .inl mm)), (rg, .inr (1, [.ref wa])), (wa, .inl (cI, 6, .inl (pw z n h c9 sp pc bs))), (sm, .inr (2, [.ref rg]))]) (As := [.int (xs (i9 + (1 : Int32)).toNatClampNeg)]) (rest := [.int r114]) (fun u9 => (kLL cB cI dB dI gc me ba rg wa sm mo mb ma on wt ht bg al mm cn (pw z n h c9 sp pc bs) z n h c9 sp pc on wt ht bg cn al cl ie ww u9 mm bs)) ⟨hx, hb, hml, hown, hws⟩ hK hP hD hS hA hT (c_X4_look l D dB dI mo mb ma H.size z n h c9 sp pc on wt ht bg cn al cl ie ww th mm bs (xs (i9 + (1 : Int32)).toNatClampNeg)) (cwV 1 hws (gw_V mw_605 mw_606 mw_607 mw_5 mw_608) rfl rfl rfl hdX4_look ⟨Nat.le_of_ble_eq_true rfl, Nat.le_of_ble_eq_true rfl⟩) [6, 7, 8] [0, 1, 2, 3, 4, 5] [2, 3] [0, 1, 2, 3, 4, 5, 6, 7, 8] rfl rfl rfl rfl (by decide) rfl (fun _ => rfl) rfl 6 rfl rfl rfl rfl hl.1 rfl (Nat.le_of_ble_eq_true rfl) dL_law_337 ⟨Nat.le_of_ble_eq_true rfl, Nat.le_of_ble_eq_true rfl⟩ (fun r117 b115 H locs hw116 hP hD hS => ?_)
                        have hP : va_P D vwCl (kLL cB cI dB dI gc me ba rg wa sm mo mb ma on wt ht bg al mm cn (pw z n h c9 sp pc bs) z n h c9 sp pc on wt ht bg cn al cl ie ww b115 mm bs) H := hP
                        have hD : va_D A (kLL cB cI dB dI gc me ba rg wa sm mo mb ma on wt ht bg al mm cn (pw z n h c9 sp pc bs) z n h c9 sp pc on wt ht bg cn al cl ie ww b115 mm bs) := hD
                        have k2 := hw116.trans (s_look (xs (i9 + (1 : Int32)).toNatClampNeg))
                        rw [← hw113] at k2
                        cases k2
                        refine lv_icmp_eq (tgt := 358) hx hb dL_law_340 (by decide) (fun _ => ?_) (fun c1 => absurd rfl c1)
                        obtain ⟨x9, ex9⟩ : ∃ y9 : Int32, y9 = i9 + 6 := ⟨_, rfl⟩
                        refine lv_iinc (v := x9) (lv' := [(3, .int x9), (0, .ref b), (1, .ref gc), (2, .ref mo)]) hx hb dL_law_358 hl (k := 3) rfl (by rw [ex9]; rfl) (by decide) rfl (fun ls hl => ?_)
                        refine lv_goto (tgt := 18) hx hb dL_law_361 (by decide) ?_
                        exact ih (j9 + 6) x9 (by omega) (by omega) (by rw [ex9, ei9]; exact nI_add j9 6) _ _ _ _ _ _ _ _ _ _ _ _ _ _ _ _ _ _ hI H locs hP hD hS ls (lv_sub hl [1, 2, 3, 0] rfl)
                      · skip
                        by_cases w9 : (xs i9.toNatClampNeg &&& (15 : Int32)) = (9 : Int32)
                        · refine lv_tableIn (off := 312) (tgt := 345) hx hb dL_law_33 (by rw [w9]; decide) (by rw [w9]; decide) (by rw [w9]; decide) (by decide) ?_
                          refine lv_aload_n hx hb dL_law_345 rfl (lv_at hl 1 rfl) ?_
                          refine kc_Vi (wr := [(mo, .inr (4, [.ref mb, .ref ma, .int (bI z), .int (bI n), .int (bI h), .int (bI c9), .int sp, .int pc, .int (bI on), .int (bI wt), .int (bI ht), .int (bI bg), .int cn, .int al, .int cl, .int (bI ie), .int (bI ww), .int th])), (mb, .inl (dB, 65536, .inl mm)), (ma, .inl (dI, 8, .inl bs))]) (As := []) (rest := []) (fun _ => (kLL cB cI dB dI gc me ba rg wa sm mo mb ma on wt ht bg al mm cn (pw z n h c9 sp pc bs) z n h c9 sp pc on wt ht bg cn al cl ie ww th mm bs)) ⟨hx, hb, hml, hown, hws⟩ hK hP hD hS hA hT (c_X3_mcycles l D cB cI gc me ba rg wa sm H.size on wt ht bg al mm cn (pw z n h c9 sp pc bs) ) (cwV 0 hws (gw_V mw_609 mw_610 mw_611 mw_2 mw_612) rfl rfl rfl hdX3_mcycles ⟨Nat.le_of_ble_eq_true rfl, Nat.le_of_ble_eq_true rfl⟩) [0, 1, 2, 3, 4, 5] [6, 7, 8] [0, 1] [3, 4, 5, 6, 7, 8, 0, 1, 2] rfl rfl rfl rfl (by decide) rfl (fun _ => rfl) rfl 0 rfl rfl rfl rfl hl.1 rfl (Nat.le_of_ble_eq_true rfl) dL_law_346 ⟨Nat.le_of_ble_eq_true rfl, Nat.le_of_ble_eq_true rfl⟩ (fun r119 _ H locs hw118 hP hD hS => ?_)
                          have hP : va_P D vwCl (kLL cB cI dB dI gc me ba rg wa sm mo mb ma on wt ht bg al mm cn (pw z n h c9 sp pc bs) z n h c9 sp pc on wt ht bg cn al cl ie ww th mm bs) H := hP
                          have hD : va_D A (kLL cB cI dB dI gc me ba rg wa sm mo mb ma on wt ht bg al mm cn (pw z n h c9 sp pc bs) z n h c9 sp pc on wt ht bg cn al cl ie ww th mm bs) := hD
                          refine lv_aload_n hx hb dL_law_349 rfl (lv_at hl 2 rfl) ?_
                          refine kc_Vi (wr := [(gc, .inr (3, [.ref me, .ref rg, .ref sm, .int (bI on), .int (bI wt), .int (bI ht), .int (bI bg), .int al])), (me, .inr (0, [.ref ba, .int cn])), (ba, .inl (cB, 65536, .inl mm)), (rg, .inr (1, [.ref wa])), (wa, .inl (cI, 6, .inl (pw z n h c9 sp pc bs))), (sm, .inr (2, [.ref rg]))]) (As := []) (rest := [.int r119]) (fun u9 => (kLL cB cI dB dI gc me ba rg wa sm mo mb ma on wt ht bg al mm cn (pw z n h c9 sp pc bs) z n h c9 sp pc on wt ht bg cn al cl ie ww u9 mm bs)) ⟨hx, hb, hml, hown, hws⟩ hK hP hD hS hA hT (c_X4_mcycles l D dB dI mo mb ma H.size z n h c9 sp pc on wt ht bg cn al cl ie ww th mm bs ) (cwV 0 hws (gw_V mw_613 mw_614 mw_615 mw_5 mw_616) rfl rfl rfl hdX4_mcycles ⟨Nat.le_of_ble_eq_true rfl, Nat.le_of_ble_eq_true rfl⟩) [6, 7, 8] [0, 1, 2, 3, 4, 5] [2, 3] [0, 1, 2, 3, 4, 5, 6, 7, 8] rfl rfl rfl rfl (by decide) rfl (fun _ => rfl) rfl 6 rfl rfl rfl rfl hl.1 rfl (Nat.le_of_ble_eq_true rfl) dL_law_350 ⟨Nat.le_of_ble_eq_true rfl, Nat.le_of_ble_eq_true rfl⟩ (fun r122 b120 H locs hw121 hP hD hS => ?_)
                          have hP : va_P D vwCl (kLL cB cI dB dI gc me ba rg wa sm mo mb ma on wt ht bg al mm cn (pw z n h c9 sp pc bs) z n h c9 sp pc on wt ht bg cn al cl ie ww b120 mm bs) H := hP
                          have hD : va_D A (kLL cB cI dB dI gc me ba rg wa sm mo mb ma on wt ht bg al mm cn (pw z n h c9 sp pc bs) z n h c9 sp pc on wt ht bg cn al cl ie ww b120 mm bs) := hD
                          have k2 := hw121.trans s_mcycles
                          rw [← hw118] at k2
                          cases k2
                          refine lv_icmp_eq (tgt := 358) hx hb dL_law_353 (by decide) (fun _ => ?_) (fun c1 => absurd rfl c1)
                          obtain ⟨x9, ex9⟩ : ∃ y9 : Int32, y9 = i9 + 6 := ⟨_, rfl⟩
                          refine lv_iinc (v := x9) (lv' := [(3, .int x9), (0, .ref b), (1, .ref gc), (2, .ref mo)]) hx hb dL_law_358 hl (k := 3) rfl (by rw [ex9]; rfl) (by decide) rfl (fun ls hl => ?_)
                          refine lv_goto (tgt := 18) hx hb dL_law_361 (by decide) ?_
                          exact ih (j9 + 6) x9 (by omega) (by omega) (by rw [ex9, ei9]; exact nI_add j9 6) _ _ _ _ _ _ _ _ _ _ _ _ _ _ _ _ _ _ hI H locs hP hD hS ls (lv_sub hl [1, 2, 3, 0] rfl)
                        · skip
                          refine lv_tableOut (tgt := 358) hx hb dL_law_33 (by have n0 := lv_neT w0 (a := 0) rfl; have n1 := lv_neT w1 (a := 1) rfl; have n2 := lv_neT w2 (a := 2) rfl; have n3 := lv_neT w3 (a := 3) rfl; have n4 := lv_neT w4 (a := 4) rfl; have n5 := lv_neT w5 (a := 5) rfl; have n6 := lv_neT w6 (a := 6) rfl; have n7 := lv_neT w7 (a := 7) rfl; have n8 := lv_neT w8 (a := 8) rfl; have n9 := lv_neT w9 (a := 9) rfl; omega) (by decide) ?_
                          obtain ⟨x9, ex9⟩ : ∃ y9 : Int32, y9 = i9 + 6 := ⟨_, rfl⟩
                          refine lv_iinc (v := x9) (lv' := [(3, .int x9), (0, .ref b), (1, .ref gc), (2, .ref mo)]) hx hb dL_law_358 hl (k := 3) rfl (by rw [ex9]; rfl) (by decide) rfl (fun ls hl => ?_)
                          refine lv_goto (tgt := 18) hx hb dL_law_361 (by decide) ?_
                          exact ih (j9 + 6) x9 (by omega) (by omega) (by rw [ex9, ei9]; exact nI_add j9 6) _ _ _ _ _ _ _ _ _ _ _ _ _ _ _ _ _ _ hI H locs hP hD hS ls (lv_sub hl [1, 2, 3, 0] rfl)
