/-! The public methods beside the reference's. -/
theorem R3_stop {a i : Int32} {on wt ht bg : Bool} {al cn : Int32} {mm w : Nat → Int32} (q : a ≤ i) : fX3_run_L a (i, on, wt, ht, bg, al, mm, cn, w) = Sum.inr (a, on, wt, ht, bg, al, mm, cn, w) := Eq.trans (kU9_e _ _) (kt_le q)
theorem R3_two {a i : Int32} {on wt ht bg on2 wt2 ht2 bg2 : Bool} {al cn al2 cn2 : Int32} {mm w mm2 w2 : Nat → Int32} (q : ¬ a ≤ i) (e : fX3_takeStep on wt ht bg al mm cn w = ((2 : Int32), on2, wt2, ht2, bg2, al2, mm2, cn2, w2)) : fX3_run_L a (i, on, wt, ht, bg, al, mm, cn, w) = Sum.inr (i, on2, wt2, ht2, bg2, al2, mm2, cn2, w2) := Eq.trans (kU9_e _ _) (Eq.trans (kf_le q) (Eq.trans (kE9 e.symm) (kt_eq rfl)))
theorem R3_go {a i r : Int32} {on wt ht bg on2 wt2 ht2 bg2 : Bool} {al cn al2 cn2 : Int32} {mm w mm2 w2 : Nat → Int32} (q : ¬ a ≤ i) (e : fX3_takeStep on wt ht bg al mm cn w = (r, on2, wt2, ht2, bg2, al2, mm2, cn2, w2)) (hr : ¬ r = 2) : fX3_run_L a (i, on, wt, ht, bg, al, mm, cn, w) = Sum.inl (i + 1, on2, wt2, ht2, bg2, al2, mm2, cn2, w2) := Eq.trans (kU9_e _ _) (Eq.trans (kf_le q) (Eq.trans (kE9 e.symm) (Eq.trans (kf_eq hr) (kU1_e _ _))))
section S7
variable {z n h c on wt ht bg ie ww z2 n2 h2 c2 on2 wt2 ht2 bg2 ie2 ww2 : Bool} {sp pc cn al cl th sp2 pc2 cn2 al2 cl2 th2 : Int32} {bs mm bs2 mm2 : Nat → Int32}
theorem R4_stop {a i : Int32} (q : a ≤ i) : fX4_run_L a (i, z, n, h, c, sp, pc, on, wt, ht, bg, cn, al, cl, ie, ww, th, mm, bs) = Sum.inr (i, z, n, h, c, sp, pc, on, wt, ht, bg, cn, al, cl, ie, ww, th, mm, bs) := Eq.trans (kU19_e _ _) (kt_le q)
theorem R4_two {a i : Int32} (q : ¬ a ≤ i) (e : fX4_step z n h c sp pc on wt ht bg cn al cl ie ww th mm bs = ((2 : Int32), z2, n2, h2, c2, sp2, pc2, on2, wt2, ht2, bg2, cn2, al2, cl2, ie2, ww2, th2, mm2, bs2)) : fX4_run_L a (i, z, n, h, c, sp, pc, on, wt, ht, bg, cn, al, cl, ie, ww, th, mm, bs) = Sum.inr (i, z2, n2, h2, c2, sp2, pc2, on2, wt2, ht2, bg2, cn2, al2, cl2, ie2, ww2, th2, mm2, bs2) := Eq.trans (kU19_e _ _) (Eq.trans (kf_le q) (Eq.trans (kE19 e.symm) (kt_le (by decide))))
theorem R4_go {a i r : Int32} (q : ¬ a ≤ i) (e : fX4_step z n h c sp pc on wt ht bg cn al cl ie ww th mm bs = (r, z2, n2, h2, c2, sp2, pc2, on2, wt2, ht2, bg2, cn2, al2, cl2, ie2, ww2, th2, mm2, bs2)) (hr : ¬ (2 : Int32) ≤ r) : fX4_run_L a (i, z, n, h, c, sp, pc, on, wt, ht, bg, cn, al, cl, ie, ww, th, mm, bs) = Sum.inl (i + 1, z2, n2, h2, c2, sp2, pc2, on2, wt2, ht2, bg2, cn2, al2, cl2, ie2, ww2, th2, mm2, bs2) := Eq.trans (kU19_e _ _) (Eq.trans (kf_le q) (Eq.trans (kE19 e.symm) (Eq.trans (kf_le hr) (kU1_e _ _))))
theorem kT_top {a i : Int32} {n : Nat} (h : kT a.toNatClampNeg i n) (h0 : ¬ a < (1 : Int32)) (q : a ≤ i) : i = a := by
  obtain ⟨j, rfl, h1, h2⟩ := h
  have hb : a.toInt < 2 ^ 31 := Int32.toInt_lt a
  have hk : (a.toNatClampNeg : Int) = max a.toInt 0 := by
    show (a.toInt.toNat : Int) = _
    omega
  rw [Int32.lt_iff_toInt_lt] at h0
  have h1' : (1 : Int32).toInt = 1 := rfl
  rw [Int32.le_iff_toInt_le, nI_toInt (by omega)] at q
  apply Int32.toInt_inj.mp
  rw [nI_toInt (by omega)]
  omega
/-- the relation between two states -/
def Inv (bs : Nat → Int32) (sp pc : Int32) (wt bg : Bool) : Prop := Byts bs ∧ Wrd sp ∧ Wrd pc ∧ (wt && bg) = false
def RunOk (E : Int32 × Bool × Bool × Bool × Bool × Int32 × (Nat → Int32) × Int32 × (Nat → Int32)) (R : Int32 × Bool × Bool × Bool × Bool × Int32 × Int32 × Bool × Bool × Bool × Bool × Int32 × Int32 × Int32 × Bool × Bool × Int32 × (Nat → Int32) × (Nat → Int32)) : Prop := ∃ (r : Int32) (z2 n2 h2 c2 : Bool) (sp2 pc2 : Int32) (on2 wt2 ht2 bg2 : Bool) (cn2 al2 cl2 : Int32) (ie2 ww2 : Bool) (th2 : Int32) (mm2 bs2 : Nat → Int32), E = (r, on2, wt2, ht2, bg2, al2, mm2, cn2, pw z2 n2 h2 c2 sp2 pc2 bs2) ∧ R = (r, z2, n2, h2, c2, sp2, pc2, on2, wt2, ht2, bg2, cn2, al2, cl2, ie2, ww2, th2, mm2, bs2) ∧ Inv bs2 sp2 pc2 wt2 bg2
end S7
theorem s_runL {a : Int32} (h0 : ¬ a < (1 : Int32)) {d3 : Int32 × Bool × Bool × Bool × Bool × Int32 × (Nat → Int32) × Int32 × (Nat → Int32)} {d4 : Int32 × Bool × Bool × Bool × Bool × Int32 × Int32 × Bool × Bool × Bool × Bool × Int32 × Int32 × Int32 × Bool × Bool × Int32 × (Nat → Int32) × (Nat → Int32)} : ∀ (k : Nat) (i : Int32) (z n h c : Bool) (sp pc : Int32) (on wt ht bg : Bool) (cn al cl : Int32) (ie ww : Bool) (th : Int32) (mm bs : Nat → Int32), kT a.toNatClampNeg i k → Inv bs sp pc wt bg → RunOk (kIt (fX3_run_L a) d3 k (i, on, wt, ht, bg, al, mm, cn, pw z n h c sp pc bs)) (kIt (fX4_run_L a) d4 k (i, z, n, h, c, sp, pc, on, wt, ht, bg, cn, al, cl, ie, ww, th, mm, bs)) := by
  intro k
  induction k with
  | zero => intro i z n h c sp pc on wt ht bg cn al cl ie ww th mm bs hT; exact absurd hT kT_0
  | succ k ih =>
    intro i z n h c sp pc on wt ht bg cn al cl ie ww th mm bs hT hI
    by_cases q : a ≤ i
    · have ei := kT_top hT h0 q
      subst ei
      exact ⟨_, _, _, _, _, _, _, _, _, _, _, _, _, _, _, _, _, _, _, kI_inr (R3_stop q), kI_inr (R4_stop q), hI⟩
    · obtain ⟨r, z2, n2, h2, c2, sp2, pc2, on2, wt2, ht2, bg2, cn2, al2, cl2, ie2, ww2, th2, mm2, bs2, e3, e4, b1, b2, b3, b4, b5⟩ := s_step (z := z) (n := n) (h := h) (c := c) (on := on) (ht := ht) (cn := cn) (al := al) (cl := cl) (ie := ie) (ww := ww) (th := th) (mm := mm) hI.1 hI.2.1 hI.2.2.1 hI.2.2.2
      by_cases hr : r = 2
      · subst hr
        exact ⟨_, _, _, _, _, _, _, _, _, _, _, _, _, _, _, _, _, _, _, kI_inr (R3_two q e3), kI_inr (R4_two q e4), b1, b2, b3, b4⟩
      · have hr2 : ¬ (2 : Int32) ≤ r := by
          rcases b5 with rfl | rfl | rfl
          · decide
          · decide
          · exact absurd rfl hr
        have := ih (i + 1) z2 n2 h2 c2 sp2 pc2 on2 wt2 ht2 bg2 cn2 al2 cl2 ie2 ww2 th2 mm2 bs2 (kT_stepV rfl q hT) ⟨b1, b2, b3, b4⟩
        rw [kI_inl (R3_go q e3 hr), kI_inl (R4_go q e4 hr2)]
        exact this
section S8
variable {z n h c on wt ht bg ie ww : Bool} {sp pc cn al cl th : Int32} {bs mm : Nat → Int32}
theorem s_run (hI : Inv bs sp pc wt bg) (a : Int32) : RunOk (fX3_run on wt ht bg al mm cn (pw z n h c sp pc bs) a) (fX4_run z n h c sp pc on wt ht bg cn al cl ie ww th mm bs a) := by
  by_cases q1 : a < (1 : Int32)
  · exact ⟨_, _, _, _, _, _, _, _, _, _, _, _, _, _, _, _, _, _, _, kt_lt q1, kt_lt q1, hI⟩
  · by_cases q2 : a ≤ (2000 : Int32)
    · have := s_runL q1 (d3 := (0, on, wt, ht, bg, al, mm, cn, pw z n h c sp pc bs)) (d4 := (0, z, n, h, c, sp, pc, on, wt, ht, bg, cn, al, cl, ie, ww, (0 : Int32), mm, bs)) (a.toNatClampNeg + 1) 0 z n h c sp pc on wt ht bg cn al cl ie ww 0 mm bs (kT_init _) hI
      rw [show fX3_run on wt ht bg al mm cn (pw z n h c sp pc bs) a = _ from Eq.trans (kf_lt q1) (kt_le q2), show fX4_run z n h c sp pc on wt ht bg cn al cl ie ww th mm bs a = _ from Eq.trans (kf_lt q1) (kt_le q2)]
      exact this
    · exact ⟨_, _, _, _, _, _, _, _, _, _, _, _, _, _, _, _, _, _, _, Eq.trans (kf_lt q1) (kf_le q2), Eq.trans (kf_lt q1) (kf_le q2), hI⟩
theorem s_stepP (hI : Inv bs sp pc wt bg) : RunOk (fX3_step on wt ht bg al mm cn (pw z n h c sp pc bs)) (fX4_step z n h c sp pc on wt ht bg cn al cl ie ww th mm bs) := by
  obtain ⟨r, z2, n2, h2, c2, sp2, pc2, on2, wt2, ht2, bg2, cn2, al2, cl2, ie2, ww2, th2, mm2, bs2, e3, e4, b1, b2, b3, b4, b5⟩ := s_step (z := z) (n := n) (h := h) (c := c) (on := on) (ht := ht) (cn := cn) (al := al) (cl := cl) (ie := ie) (ww := ww) (th := th) (mm := mm) hI.1 hI.2.1 hI.2.2.1 hI.2.2.2
  exact ⟨_, _, _, _, _, _, _, _, _, _, _, _, _, _, _, _, _, _, _, kE9 e3.symm, e4, b1, b2, b3, b4⟩
theorem s_poke (a v : Int32) : ∃ (q : Bool) (m2 : Nat → Int32), fX3_poke mm a v = (q, m2) ∧ fX4_poke th mm a v = (q, (0 : Int32), m2) := by
  by_cases q1 : a < (0 : Int32)
  · exact ⟨_, _, kt_lt q1, kt_lt q1⟩
  · by_cases q2 : a ≤ (65535 : Int32)
    · exact ⟨_, _, Eq.trans (kf_lt q1) (Eq.trans (kt_le q2) (kU1_e _ _)), Eq.trans (kf_lt q1) (Eq.trans (kt_le q2) (kU1_e _ _))⟩
    · exact ⟨_, _, Eq.trans (kf_lt q1) (kf_le q2), Eq.trans (kf_lt q1) (kf_le q2)⟩
theorem s_peek (a : Int32) : fX4_peek th mm a = (fX3_peek mm a, (0 : Int32)) := by
  by_cases q1 : a < (0 : Int32)
  · rw [show fX3_peek mm a = _ from kt_lt q1]; exact kt_lt q1
  · by_cases q2 : a ≤ (65535 : Int32)
    · rw [show fX3_peek mm a = _ from Eq.trans (kf_lt q1) (Eq.trans (kt_le q2) (kU1_e _ _))]; exact Eq.trans (kf_lt q1) (Eq.trans (kt_le q2) (kU1_e _ _))
    · rw [show fX3_peek mm a = _ from Eq.trans (kf_lt q1) (kf_le q2)]; exact Eq.trans (kf_lt q1) (kf_le q2)
theorem s_request (a : Int32) : ∃ (q : Bool) (m2 : Nat → Int32), fX3_request mm a = (q, m2) ∧ fX4_request th mm a = (q, (0 : Int32), m2) := by
  by_cases q1 : a < (0 : Int32)
  · exact ⟨_, _, kt_lt q1, kt_lt q1⟩
  · by_cases q2 : a < (5 : Int32)
    · have q3 : a ≤ (4 : Int32) := by
        rw [Int32.lt_iff_toInt_lt] at q2; rw [Int32.le_iff_toInt_le]
        have e5 : (5 : Int32).toInt = 5 := rfl
        have e4 : (4 : Int32).toInt = 4 := rfl
        omega
      refine ⟨_, _, Eq.trans (kf_lt q1) (Eq.trans (kt_lt q2) (kU1_e _ _)), Eq.trans (kf_lt q1) (Eq.trans (kt_le q3) (Eq.trans (kU1_e _ _) (Eq.trans (kU1_e _ _) ?_)))⟩
      simp only [fX0_raiseInterrupts, kU1_e, q_at, q_puts]
    · have q3 : ¬ a ≤ (4 : Int32) := by
        rw [Int32.lt_iff_toInt_lt] at q2; rw [Int32.le_iff_toInt_le]
        have e5 : (5 : Int32).toInt = 5 := rfl
        have e4 : (4 : Int32).toInt = 4 := rfl
        omega
      exact ⟨_, _, Eq.trans (kf_lt q1) (kf_lt q2), Eq.trans (kf_lt q1) (kf_le q3)⟩
theorem c6 (a : Int32) : a = 0 ∨ a = 1 ∨ a = 2 ∨ a = 3 ∨ a = 4 ∨ a = 5 ∨ (a < (0 : Int32) ∨ ¬ a < (6 : Int32)) := by
  by_cases q1 : a < (0 : Int32)
  · exact Or.inr (Or.inr (Or.inr (Or.inr (Or.inr (Or.inr (Or.inl q1))))))
  · by_cases q2 : a < (6 : Int32)
    · obtain ⟨j, hj, rfl⟩ := vp_in_of (ki_lt (n := 6) q1 q2 rfl) (by decide)
      rcases (show j = 0 ∨ j = 1 ∨ j = 2 ∨ j = 3 ∨ j = 4 ∨ j = 5 by omega) with rfl | rfl | rfl | rfl | rfl | rfl <;> decide
    · exact Or.inr (Or.inr (Or.inr (Or.inr (Or.inr (Or.inr (Or.inr q2))))))
theorem out6 {a : Int32} (q : a < (0 : Int32) ∨ ¬ a < (6 : Int32)) : ¬ a = 0 ∧ ¬ a = 1 ∧ ¬ a = 2 ∧ ¬ a = 3 ∧ ¬ a = 4 ∧ ¬ a = 5 := by
  refine ⟨?_, ?_, ?_, ?_, ?_, ?_⟩ <;> (intro e; subst e; revert q; decide)
theorem s_reg (a : Int32) : fX4_reg z n h c sp pc th bs a = (fX3_reg (pw z n h c sp pc bs) a, (0 : Int32)) := by
  rw [show fX3_reg (pw z n h c sp pc bs) a = fX1_word (pw z n h c sp pc bs) a from kU1_e _ _]
  rcases c6 a with rfl | rfl | rfl | rfl | rfl | rfl | q
  · exact Eq.trans (kt_eq rfl) (kU1_e _ _)
  · exact Eq.trans (kf_eq (by decide)) (Eq.trans (kt_eq rfl) (kU1_e _ _))
  · exact Eq.trans (kf_eq (by decide)) (Eq.trans (kf_eq (by decide)) (Eq.trans (kt_eq rfl) (kU1_e _ _)))
  · exact Eq.trans (kf_eq (by decide)) (Eq.trans (kf_eq (by decide)) (Eq.trans (kf_eq (by decide)) (Eq.trans (kt_eq rfl) (kU1_e _ _))))
  · exact Eq.trans (kf_eq (by decide)) (Eq.trans (kf_eq (by decide)) (Eq.trans (kf_eq (by decide)) (Eq.trans (kf_eq (by decide)) (kt_eq rfl))))
  · exact Eq.trans (kf_eq (by decide)) (Eq.trans (kf_eq (by decide)) (Eq.trans (kf_eq (by decide)) (Eq.trans (kf_eq (by decide)) (Eq.trans (kf_eq (by decide)) (kt_eq rfl)))))
  · obtain ⟨n0, n1, n2, n3, n4, n5⟩ := out6 q
    rw [show fX1_word (pw z n h c sp pc bs) a = (-1 : Int32) from by
      by_cases q1 : a < (0 : Int32)
      · exact kt_lt q1
      · exact Eq.trans (kf_lt q1) (kf_lt (q.resolve_left q1))]
    exact Eq.trans (kf_eq n0) (Eq.trans (kf_eq n1) (Eq.trans (kf_eq n2) (Eq.trans (kf_eq n3) (Eq.trans (kf_eq n4) (kf_eq n5)))))
theorem s_set (hI : Inv bs sp pc wt bg) (a v : Int32) : ∃ (q z2 n2 h2 c2 : Bool) (sp2 pc2 : Int32) (bs2 : Nat → Int32), fX3_set (pw z n h c sp pc bs) a v = (q, pw z2 n2 h2 c2 sp2 pc2 bs2) ∧ fX4_set z n h c sp pc th bs a v = (q, z2, n2, h2, c2, sp2, pc2, (0 : Int32), bs2) ∧ Inv bs2 sp2 pc2 wt bg := by
  rw [show fX3_set (pw z n h c sp pc bs) a v = ((fX1_setWord (pw z n h c sp pc bs) a v).1, (fX1_setWord (pw z n h c sp pc bs) a v).2) from kU2_e _ _]
  obtain ⟨hb, hs, hp, hw⟩ := hI
  rcases c6 a with rfl | rfl | rfl | rfl | rfl | rfl | q
  · rw [r_s0]; exact ⟨_, _, _, _, _, _, _, _, rfl, Eq.trans (kt_eq rfl) (Eq.trans (kU1_e _ _) (kU4_e _ _)), hb.up (Byt.mk _), hs, hp, hw⟩
  · rw [r_s1, ← setPair_mask]; exact ⟨_, _, _, _, _, _, _, _, rfl, Eq.trans (kf_eq (by decide)) (Eq.trans (kt_eq rfl) (kU1_e _ _)), setPair_B hb _ _, hs, hp, hw⟩
  · rw [r_s2, ← setPair_mask]; exact ⟨_, _, _, _, _, _, _, _, rfl, Eq.trans (kf_eq (by decide)) (Eq.trans (kf_eq (by decide)) (Eq.trans (kt_eq rfl) (kU1_e _ _))), setPair_B hb _ _, hs, hp, hw⟩
  · rw [r_s3, ← setPair_mask]; exact ⟨_, _, _, _, _, _, _, _, rfl, Eq.trans (kf_eq (by decide)) (Eq.trans (kf_eq (by decide)) (Eq.trans (kf_eq (by decide)) (Eq.trans (kt_eq rfl) (kU1_e _ _)))), setPair_B hb _ _, hs, hp, hw⟩
  · rw [r_s4]; exact ⟨_, _, _, _, _, _, _, _, rfl, Eq.trans (kf_eq (by decide)) (Eq.trans (kf_eq (by decide)) (Eq.trans (kf_eq (by decide)) (Eq.trans (kf_eq (by decide)) (Eq.trans (kt_eq rfl) (kU1_e _ _))))), hb, Wrd.mk _, hp, hw⟩
  · rw [r_s5]; exact ⟨_, _, _, _, _, _, _, _, rfl, Eq.trans (kf_eq (by decide)) (Eq.trans (kf_eq (by decide)) (Eq.trans (kf_eq (by decide)) (Eq.trans (kf_eq (by decide)) (Eq.trans (kf_eq (by decide)) (Eq.trans (kt_eq rfl) (kU1_e _ _)))))), hb, hs, Wrd.mk _, hw⟩
  · obtain ⟨n0, n1, n2, n3, n4, n5⟩ := out6 q
    rw [show fX1_setWord (pw z n h c sp pc bs) a v = (false, pw z n h c sp pc bs) from by
      by_cases q1 : a < (0 : Int32)
      · exact kt_lt q1
      · exact Eq.trans (kf_lt q1) (kf_lt (q.resolve_left q1))]
    exact ⟨_, _, _, _, _, _, _, _, rfl, Eq.trans (kf_eq n0) (Eq.trans (kf_eq n1) (Eq.trans (kf_eq n2) (Eq.trans (kf_eq n3) (Eq.trans (kf_eq n4) (kf_eq n5))))), hb, hs, hp, hw⟩
theorem s_look (a : Int32) : fX4_look on wt ht bg cn th a = (fX3_look on wt ht bg cn a, (0 : Int32)) := by
  unfold fX4_look fX3_look
  generalize kEq a (0 : Int32) = q0
  generalize kEq a (1 : Int32) = q1
  generalize kEq a (2 : Int32) = q2
  generalize kEq a (3 : Int32) = q3
  generalize kEq a (4 : Int32) = q4
  cases q0 <;> cases q1 <;> cases q2 <;> cases q3 <;> cases q4 <;> cases on <;> cases wt <;> cases ht <;> cases bg <;> rfl
theorem s_mcycles : fX4_mcycles al th = (fX3_mcycles al, (0 : Int32)) := rfl
end S8
