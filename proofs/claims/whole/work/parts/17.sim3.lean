/-! Each instruction of the class beside the reference's. -/
def kF (w0 on wt ie : Bool) : Bool × Bool := kIf (kEq (bI w0) (0 : Int32)) (kIf (kEq (bI ie) (0 : Int32)) (on, wt) (on, true)) (kIf (kEq (bI wt) (0 : Int32)) (kIf (kEq (bI ie) (0 : Int32)) (on, wt) (on, true)) (true, false))
def kG (w0 im ei : Bool) (op : Int32) : Bool × Bool := kIf (kEq (bI w0) (0 : Int32)) (im, ei) (kIf (kEq op (243 : Int32)) (im, ei) (true, false))
abbrev R15 : Type := Bool × Bool × Bool × Bool × Int32 × Int32 × Bool × Bool × Bool × Bool × Int32 × Int32 × Bool × (Nat → Int32) × (Nat → Int32)
abbrev E8 : Type := Int32 × Bool × Bool × Bool × Bool × (Nat → Int32) × Int32 × (Nat → Int32)
/-- the class's answer E beside the reference's R: w0: an EI waited; base: the table's M-cycles -/
def SimX (w0 : Bool) (op base : Int32) (E : E8) (R : R15) : Prop := ∃ (z n h c : Bool) (sp pc : Int32) (on wt ht bg : Bool) (cn cl : Int32) (ie : Bool) (mm bs : Nat → Int32) (more : Int32) (im ei : Bool), R = (z, n, h, c, sp, pc, on, wt, ht, bg, cn, cl, ie, mm, bs) ∧ E = (more, im, ei, ht, bg, mm, cn, pw z n h c sp pc bs) ∧ cl = base + more ∧ Byts bs ∧ Wrd sp ∧ Wrd pc ∧ kF w0 on wt ie = kG w0 im ei op ∧ ((kF w0 on wt ie).2 && bg) = false
theorem SimX.mk {w0 : Bool} {op base : Int32} {z n h c : Bool} {sp pc : Int32} {on wt ht bg : Bool} {cn cl : Int32} {ie : Bool} {mm bs : Nat → Int32} {more : Int32} {im ei : Bool} (h1 : cl = base + more) (h2 : Byts bs) (h3 : Wrd sp) (h4 : Wrd pc) (h5 : kF w0 on wt ie = kG w0 im ei op) (h6 : ((kF w0 on wt ie).2 && bg) = false) : SimX w0 op base (more, im, ei, ht, bg, mm, cn, pw z n h c sp pc bs) (z, n, h, c, sp, pc, on, wt, ht, bg, cn, cl, ie, mm, bs) := ⟨_, _, _, _, _, _, _, _, _, _, _, _, _, _, _, _, _, _, rfl, rfl, h1, h2, h3, h4, h5, h6⟩
section S3
variable {z n h c : Bool} {sp pc cn cl : Int32} {bs mm : Nat → Int32}
theorem at_e (p : Int32) : fX0_at mm p &&& (255 : Int32) = fX0_at mm p := at_B p
theorem fw_e (p q : Int32) : (fX0_at mm p ||| (fX0_at mm q <<< ((8 : Int32) &&& (31 : Int32)))) &&& (65535 : Int32) = fX0_at mm p ||| (fX0_at mm q <<< ((8 : Int32) &&& (31 : Int32))) := fw_W p q
theorem fw_h (p q : Int32) : ((fX0_at mm p ||| (fX0_at mm q <<< ((8 : Int32) &&& (31 : Int32)))) >>> ((8 : Int32) &&& (31 : Int32))) &&& (255 : Int32) = (fX0_at mm p ||| (fX0_at mm q <<< ((8 : Int32) &&& (31 : Int32)))) >>> ((8 : Int32) &&& (31 : Int32)) := (fw_W p q).hi
theorem hl_e (hb : Byts bs) : fX4_hl bs &&& (65535 : Int32) = fX4_hl bs := hl_W hb
theorem pr_2 : fX4_pair bs (2 : Int32) = fX4_hl bs := rfl
theorem by_e (hb : Byts bs) (k : Nat) : bs k &&& (255 : Int32) = bs k := hb k
theorem fl_0 : fX1_word (pw z n h c sp pc bs) (0 : Int32) = (bs 7 <<< ((8 : Int32) &&& (31 : Int32))) ||| fX4_flags z n h c := rfl
theorem xr_e {a : Int32} (ha : Byt a) : (a ^^^ (-1 : Int32)) &&& (255 : Int32) = a ^^^ (255 : Int32) := by
  apply b_ext; intro i hi
  rw [b_and, b_xor, b_xor, b_m1 i hi, b_255]
  by_cases q : i < 8
  · rw [decide_eq_true q]; simp
  · rw [decide_eq_false q, by_hi ha (by omega)]; rfl
theorem vi8 (k : Nat) (hk : k < 8) : vp_in (nI k) 8 := vp_in_nI hk (by decide)
theorem add_a1 (x : Int32) : x + (1 : Int32) + (2 : Int32) = x + (3 : Int32) := by rw [Int32.add_assoc]; rfl
theorem cop_0 (hb : Byts bs) : fX3_operand mm (pw z n h c sp pc bs) (0 : Int32) = bs 0 := (c_opn (by decide)).trans (r_h0 hb)
theorem qop_0 : fX4_operand cl mm bs (0 : Int32) = (bs 0, cl) := q_opn (by decide)
theorem cso_0 (hb : Byts bs) (v : Int32) : fX3_setOperand mm cn (pw z n h c sp pc bs) (0 : Int32) v = (mm, cn, pw z n h c sp pc (upd bs 0 (v &&& (255 : Int32)))) := Eq.trans (kf_eq (by decide)) (kE1 (r_t0 hb v).symm)
theorem qso_0 (v : Int32) : fX4_setOperand cn cl mm bs (0 : Int32) v = (cn, cl, mm, upd bs 0 (v &&& (255 : Int32))) := Eq.trans (kf_eq (by decide)) (kU1_e _ _)
theorem cop_1 (hb : Byts bs) : fX3_operand mm (pw z n h c sp pc bs) (1 : Int32) = bs 1 := (c_opn (by decide)).trans (r_h1 hb)
theorem qop_1 : fX4_operand cl mm bs (1 : Int32) = (bs 1, cl) := q_opn (by decide)
theorem cso_1 (hb : Byts bs) (v : Int32) : fX3_setOperand mm cn (pw z n h c sp pc bs) (1 : Int32) v = (mm, cn, pw z n h c sp pc (upd bs 1 (v &&& (255 : Int32)))) := Eq.trans (kf_eq (by decide)) (kE1 (r_t1 hb v).symm)
theorem qso_1 (v : Int32) : fX4_setOperand cn cl mm bs (1 : Int32) v = (cn, cl, mm, upd bs 1 (v &&& (255 : Int32))) := Eq.trans (kf_eq (by decide)) (kU1_e _ _)
theorem cop_2 (hb : Byts bs) : fX3_operand mm (pw z n h c sp pc bs) (2 : Int32) = bs 2 := (c_opn (by decide)).trans (r_h2 hb)
theorem qop_2 : fX4_operand cl mm bs (2 : Int32) = (bs 2, cl) := q_opn (by decide)
theorem cso_2 (hb : Byts bs) (v : Int32) : fX3_setOperand mm cn (pw z n h c sp pc bs) (2 : Int32) v = (mm, cn, pw z n h c sp pc (upd bs 2 (v &&& (255 : Int32)))) := Eq.trans (kf_eq (by decide)) (kE1 (r_t2 hb v).symm)
theorem qso_2 (v : Int32) : fX4_setOperand cn cl mm bs (2 : Int32) v = (cn, cl, mm, upd bs 2 (v &&& (255 : Int32))) := Eq.trans (kf_eq (by decide)) (kU1_e _ _)
theorem cop_3 (hb : Byts bs) : fX3_operand mm (pw z n h c sp pc bs) (3 : Int32) = bs 3 := (c_opn (by decide)).trans (r_h3 hb)
theorem qop_3 : fX4_operand cl mm bs (3 : Int32) = (bs 3, cl) := q_opn (by decide)
theorem cso_3 (hb : Byts bs) (v : Int32) : fX3_setOperand mm cn (pw z n h c sp pc bs) (3 : Int32) v = (mm, cn, pw z n h c sp pc (upd bs 3 (v &&& (255 : Int32)))) := Eq.trans (kf_eq (by decide)) (kE1 (r_t3 hb v).symm)
theorem qso_3 (v : Int32) : fX4_setOperand cn cl mm bs (3 : Int32) v = (cn, cl, mm, upd bs 3 (v &&& (255 : Int32))) := Eq.trans (kf_eq (by decide)) (kU1_e _ _)
theorem cop_4 (hb : Byts bs) : fX3_operand mm (pw z n h c sp pc bs) (4 : Int32) = bs 4 := (c_opn (by decide)).trans (r_h4 hb)
theorem qop_4 : fX4_operand cl mm bs (4 : Int32) = (bs 4, cl) := q_opn (by decide)
theorem cso_4 (hb : Byts bs) (v : Int32) : fX3_setOperand mm cn (pw z n h c sp pc bs) (4 : Int32) v = (mm, cn, pw z n h c sp pc (upd bs 4 (v &&& (255 : Int32)))) := Eq.trans (kf_eq (by decide)) (kE1 (r_t4 hb v).symm)
theorem qso_4 (v : Int32) : fX4_setOperand cn cl mm bs (4 : Int32) v = (cn, cl, mm, upd bs 4 (v &&& (255 : Int32))) := Eq.trans (kf_eq (by decide)) (kU1_e _ _)
theorem cop_5 (hb : Byts bs) : fX3_operand mm (pw z n h c sp pc bs) (5 : Int32) = bs 5 := (c_opn (by decide)).trans (r_h5 hb)
theorem qop_5 : fX4_operand cl mm bs (5 : Int32) = (bs 5, cl) := q_opn (by decide)
theorem cso_5 (hb : Byts bs) (v : Int32) : fX3_setOperand mm cn (pw z n h c sp pc bs) (5 : Int32) v = (mm, cn, pw z n h c sp pc (upd bs 5 (v &&& (255 : Int32)))) := Eq.trans (kf_eq (by decide)) (kE1 (r_t5 hb v).symm)
theorem qso_5 (v : Int32) : fX4_setOperand cn cl mm bs (5 : Int32) v = (cn, cl, mm, upd bs 5 (v &&& (255 : Int32))) := Eq.trans (kf_eq (by decide)) (kU1_e _ _)
theorem cop_6 : fX3_operand mm (pw z n h c sp pc bs) (6 : Int32) = fX0_at mm (fX4_hl bs) := c_op6
theorem cso_6 (v : Int32) : fX3_setOperand mm cn (pw z n h c sp pc bs) (6 : Int32) v = ((fX0_write mm cn (fX4_hl bs) v).1, (fX0_write mm cn (fX4_hl bs) v).2, pw z n h c sp pc bs) := Eq.trans (kt_eq rfl) (Eq.trans (kU1_e _ _) (kU2_e _ _))
theorem qso_6 (v : Int32) : fX4_setOperand cn cl mm bs (6 : Int32) v = ((fX0_write mm cn (fX4_hl bs) v).2, cl + 1, (fX0_write mm cn (fX4_hl bs) v).1, bs) := by
  unfold fX4_setOperand; rw [kt_eq rfl]; simp only [kU1_e, kU3_e, q_writes, wr_b]
theorem cop_7 (hb : Byts bs) : fX3_operand mm (pw z n h c sp pc bs) (7 : Int32) = bs 7 := (c_opn (by decide)).trans (r_h7 hb)
theorem qop_7 : fX4_operand cl mm bs (7 : Int32) = (bs 7, cl) := q_opn (by decide)
theorem cso_7 (hb : Byts bs) (v : Int32) : fX3_setOperand mm cn (pw z n h c sp pc bs) (7 : Int32) v = (mm, cn, pw z n h c sp pc (upd bs 7 (v &&& (255 : Int32)))) := Eq.trans (kf_eq (by decide)) (kE1 (r_t7 hb v).symm)
theorem qso_7 (v : Int32) : fX4_setOperand cn cl mm bs (7 : Int32) v = (cn, cl, mm, upd bs 7 (v &&& (255 : Int32))) := Eq.trans (kf_eq (by decide)) (kU1_e _ _)
theorem sh_0 : fX3_holds (pw z n h c sp pc bs) (0 : Int32) = fX4_holds z c (0 : Int32) := s_holds (by decide)
theorem ssh_0 (hb : Byts bs) : fX2_shift (pw z n h c sp pc bs) (0 : Int32) (bs 7) = ((fX4_turned z n h c (0 : Int32) (bs 7)).1, pw (fX4_turned z n h c (0 : Int32) (bs 7)).2.1 (fX4_turned z n h c (0 : Int32) (bs 7)).2.2.1 (fX4_turned z n h c (0 : Int32) (bs 7)).2.2.2.1 (fX4_turned z n h c (0 : Int32) (bs 7)).2.2.2.2 sp pc bs) := (s_shift (vi8 0 (by decide)) hb (hb 7)).1
theorem sh_1 : fX3_holds (pw z n h c sp pc bs) (1 : Int32) = fX4_holds z c (1 : Int32) := s_holds (by decide)
theorem ssh_1 (hb : Byts bs) : fX2_shift (pw z n h c sp pc bs) (1 : Int32) (bs 7) = ((fX4_turned z n h c (1 : Int32) (bs 7)).1, pw (fX4_turned z n h c (1 : Int32) (bs 7)).2.1 (fX4_turned z n h c (1 : Int32) (bs 7)).2.2.1 (fX4_turned z n h c (1 : Int32) (bs 7)).2.2.2.1 (fX4_turned z n h c (1 : Int32) (bs 7)).2.2.2.2 sp pc bs) := (s_shift (vi8 1 (by decide)) hb (hb 7)).1
theorem sh_2 : fX3_holds (pw z n h c sp pc bs) (2 : Int32) = fX4_holds z c (2 : Int32) := s_holds (by decide)
theorem ssh_2 (hb : Byts bs) : fX2_shift (pw z n h c sp pc bs) (2 : Int32) (bs 7) = ((fX4_turned z n h c (2 : Int32) (bs 7)).1, pw (fX4_turned z n h c (2 : Int32) (bs 7)).2.1 (fX4_turned z n h c (2 : Int32) (bs 7)).2.2.1 (fX4_turned z n h c (2 : Int32) (bs 7)).2.2.2.1 (fX4_turned z n h c (2 : Int32) (bs 7)).2.2.2.2 sp pc bs) := (s_shift (vi8 2 (by decide)) hb (hb 7)).1
theorem sh_3 : fX3_holds (pw z n h c sp pc bs) (3 : Int32) = fX4_holds z c (3 : Int32) := s_holds (by decide)
theorem ssh_3 (hb : Byts bs) : fX2_shift (pw z n h c sp pc bs) (3 : Int32) (bs 7) = ((fX4_turned z n h c (3 : Int32) (bs 7)).1, pw (fX4_turned z n h c (3 : Int32) (bs 7)).2.1 (fX4_turned z n h c (3 : Int32) (bs 7)).2.2.1 (fX4_turned z n h c (3 : Int32) (bs 7)).2.2.2.1 (fX4_turned z n h c (3 : Int32) (bs 7)).2.2.2.2 sp pc bs) := (s_shift (vi8 3 (by decide)) hb (hb 7)).1
theorem sap_0 (hb : Byts bs) {v : Int32} (hv : Byt v) : fX2_apply (pw z n h c sp pc bs) (0 : Int32) v = pw (fX4_sums z n h c bs (0 : Int32) v).1 (fX4_sums z n h c bs (0 : Int32) v).2.1 (fX4_sums z n h c bs (0 : Int32) v).2.2.1 (fX4_sums z n h c bs (0 : Int32) v).2.2.2.1 sp pc (fX4_sums z n h c bs (0 : Int32) v).2.2.2.2 := (s_apply (vi8 0 (by decide)) hb hv).1
theorem saB_0 (hb : Byts bs) {v : Int32} (hv : Byt v) : Byts (fX4_sums z n h c bs (0 : Int32) v).2.2.2.2 := (s_apply (vi8 0 (by decide)) (sp := 0) (pc := 0) hb hv).2
theorem sap_1 (hb : Byts bs) {v : Int32} (hv : Byt v) : fX2_apply (pw z n h c sp pc bs) (1 : Int32) v = pw (fX4_sums z n h c bs (1 : Int32) v).1 (fX4_sums z n h c bs (1 : Int32) v).2.1 (fX4_sums z n h c bs (1 : Int32) v).2.2.1 (fX4_sums z n h c bs (1 : Int32) v).2.2.2.1 sp pc (fX4_sums z n h c bs (1 : Int32) v).2.2.2.2 := (s_apply (vi8 1 (by decide)) hb hv).1
theorem saB_1 (hb : Byts bs) {v : Int32} (hv : Byt v) : Byts (fX4_sums z n h c bs (1 : Int32) v).2.2.2.2 := (s_apply (vi8 1 (by decide)) (sp := 0) (pc := 0) hb hv).2
theorem sap_2 (hb : Byts bs) {v : Int32} (hv : Byt v) : fX2_apply (pw z n h c sp pc bs) (2 : Int32) v = pw (fX4_sums z n h c bs (2 : Int32) v).1 (fX4_sums z n h c bs (2 : Int32) v).2.1 (fX4_sums z n h c bs (2 : Int32) v).2.2.1 (fX4_sums z n h c bs (2 : Int32) v).2.2.2.1 sp pc (fX4_sums z n h c bs (2 : Int32) v).2.2.2.2 := (s_apply (vi8 2 (by decide)) hb hv).1
theorem saB_2 (hb : Byts bs) {v : Int32} (hv : Byt v) : Byts (fX4_sums z n h c bs (2 : Int32) v).2.2.2.2 := (s_apply (vi8 2 (by decide)) (sp := 0) (pc := 0) hb hv).2
theorem sap_3 (hb : Byts bs) {v : Int32} (hv : Byt v) : fX2_apply (pw z n h c sp pc bs) (3 : Int32) v = pw (fX4_sums z n h c bs (3 : Int32) v).1 (fX4_sums z n h c bs (3 : Int32) v).2.1 (fX4_sums z n h c bs (3 : Int32) v).2.2.1 (fX4_sums z n h c bs (3 : Int32) v).2.2.2.1 sp pc (fX4_sums z n h c bs (3 : Int32) v).2.2.2.2 := (s_apply (vi8 3 (by decide)) hb hv).1
theorem saB_3 (hb : Byts bs) {v : Int32} (hv : Byt v) : Byts (fX4_sums z n h c bs (3 : Int32) v).2.2.2.2 := (s_apply (vi8 3 (by decide)) (sp := 0) (pc := 0) hb hv).2
theorem sap_4 (hb : Byts bs) {v : Int32} (hv : Byt v) : fX2_apply (pw z n h c sp pc bs) (4 : Int32) v = pw (fX4_sums z n h c bs (4 : Int32) v).1 (fX4_sums z n h c bs (4 : Int32) v).2.1 (fX4_sums z n h c bs (4 : Int32) v).2.2.1 (fX4_sums z n h c bs (4 : Int32) v).2.2.2.1 sp pc (fX4_sums z n h c bs (4 : Int32) v).2.2.2.2 := (s_apply (vi8 4 (by decide)) hb hv).1
theorem saB_4 (hb : Byts bs) {v : Int32} (hv : Byt v) : Byts (fX4_sums z n h c bs (4 : Int32) v).2.2.2.2 := (s_apply (vi8 4 (by decide)) (sp := 0) (pc := 0) hb hv).2
theorem sap_5 (hb : Byts bs) {v : Int32} (hv : Byt v) : fX2_apply (pw z n h c sp pc bs) (5 : Int32) v = pw (fX4_sums z n h c bs (5 : Int32) v).1 (fX4_sums z n h c bs (5 : Int32) v).2.1 (fX4_sums z n h c bs (5 : Int32) v).2.2.1 (fX4_sums z n h c bs (5 : Int32) v).2.2.2.1 sp pc (fX4_sums z n h c bs (5 : Int32) v).2.2.2.2 := (s_apply (vi8 5 (by decide)) hb hv).1
theorem saB_5 (hb : Byts bs) {v : Int32} (hv : Byt v) : Byts (fX4_sums z n h c bs (5 : Int32) v).2.2.2.2 := (s_apply (vi8 5 (by decide)) (sp := 0) (pc := 0) hb hv).2
theorem sap_6 (hb : Byts bs) {v : Int32} (hv : Byt v) : fX2_apply (pw z n h c sp pc bs) (6 : Int32) v = pw (fX4_sums z n h c bs (6 : Int32) v).1 (fX4_sums z n h c bs (6 : Int32) v).2.1 (fX4_sums z n h c bs (6 : Int32) v).2.2.1 (fX4_sums z n h c bs (6 : Int32) v).2.2.2.1 sp pc (fX4_sums z n h c bs (6 : Int32) v).2.2.2.2 := (s_apply (vi8 6 (by decide)) hb hv).1
theorem saB_6 (hb : Byts bs) {v : Int32} (hv : Byt v) : Byts (fX4_sums z n h c bs (6 : Int32) v).2.2.2.2 := (s_apply (vi8 6 (by decide)) (sp := 0) (pc := 0) hb hv).2
theorem sap_7 (hb : Byts bs) {v : Int32} (hv : Byt v) : fX2_apply (pw z n h c sp pc bs) (7 : Int32) v = pw (fX4_sums z n h c bs (7 : Int32) v).1 (fX4_sums z n h c bs (7 : Int32) v).2.1 (fX4_sums z n h c bs (7 : Int32) v).2.2.1 (fX4_sums z n h c bs (7 : Int32) v).2.2.2.1 sp pc (fX4_sums z n h c bs (7 : Int32) v).2.2.2.2 := (s_apply (vi8 7 (by decide)) hb hv).1
theorem saB_7 (hb : Byts bs) {v : Int32} (hv : Byt v) : Byts (fX4_sums z n h c bs (7 : Int32) v).2.2.2.2 := (s_apply (vi8 7 (by decide)) (sp := 0) (pc := 0) hb hv).2
theorem tu_n (k v : Int32) : (fX4_turned z n h c k v).2.2.1 = false := rfl
theorem tu_h (k v : Int32) : (fX4_turned z n h c k v).2.2.2.1 = false := rfl
theorem tu_e (k v : Int32) : (fX4_turned z n h c k v).1 &&& (255 : Int32) = (fX4_turned z n h c k v).1 := Byt.mk _
theorem in_e (v : Int32) : (fX4_increased z n h c v).1 &&& (255 : Int32) = (fX4_increased z n h c v).1 := Byt.mk _
theorem de_e (v : Int32) : (fX4_decreased z n h c v).1 &&& (255 : Int32) = (fX4_decreased z n h c v).1 := Byt.mk _
theorem daa_e (hb : Byts bs) : fX2_adjustDecimal (pw z n h c sp pc bs) = pw (fX4_adjusts z n h c bs).1 (fX4_adjusts z n h c bs).2.1 (fX4_adjusts z n h c bs).2.2.1 (fX4_adjusts z n h c bs).2.2.2.1 sp pc (fX4_adjusts z n h c bs).2.2.2.2 := (s_daa hb).1
theorem daa_B (hb : Byts bs) : Byts (fX4_adjusts z n h c bs).2.2.2.2 := (s_daa (sp := 0) (pc := 0) hb).2
theorem tu_B (k v : Int32) : Byt (fX4_turned z n h c k v).1 := Byt.mk _
theorem b255_B : Byt (255 : Int32) := by unfold Byt; decide
theorem sp_0 : fX3_stackPair (0 : Int32) = 1 := by decide
theorem sp_2 : fX3_stackPair (2 : Int32) = 2 := by decide
theorem sp_4 : fX3_stackPair (4 : Int32) = 3 := by decide
theorem sp_6 : fX3_stackPair (6 : Int32) = 0 := by decide
theorem sg_1 : kLe (4 : Int32) (5 : Int32) = true := by decide
end S3
