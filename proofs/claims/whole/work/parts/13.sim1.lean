/-! The class's parts beside the reference's: registers, memory, fetches, the stack. -/
theorem c8 {a : Int32} (h : vp_in a 8) : a = 0 ∨ a = 1 ∨ a = 2 ∨ a = 3 ∨ a = 4 ∨ a = 5 ∨ a = 6 ∨ a = 7 := by
  obtain ⟨j, hj, rfl⟩ := vp_in_of h (by decide)
  rcases (show j = 0 ∨ j = 1 ∨ j = 2 ∨ j = 3 ∨ j = 4 ∨ j = 5 ∨ j = 6 ∨ j = 7 by omega) with rfl | rfl | rfl | rfl | rfl | rfl | rfl | rfl <;> decide
section S1
variable {z n h c : Bool} {sp pc cn cl : Int32} {bs mm : Nat → Int32}
theorem r_h0 (hb : Byts bs) : fX1_half (pw z n h c sp pc bs) (0 : Int32) = bs 0 := p2_hi (hb 0) (hb 1)
theorem r_h1 (hb : Byts bs) : fX1_half (pw z n h c sp pc bs) (1 : Int32) = bs 1 := p2_lo (hb 1)
theorem r_h2 (hb : Byts bs) : fX1_half (pw z n h c sp pc bs) (2 : Int32) = bs 2 := p2_hi (hb 2) (hb 3)
theorem r_h3 (hb : Byts bs) : fX1_half (pw z n h c sp pc bs) (3 : Int32) = bs 3 := p2_lo (hb 3)
theorem r_h4 (hb : Byts bs) : fX1_half (pw z n h c sp pc bs) (4 : Int32) = bs 4 := p2_hi (hb 4) (hb 5)
theorem r_h5 (hb : Byts bs) : fX1_half (pw z n h c sp pc bs) (5 : Int32) = bs 5 := p2_lo (hb 5)
theorem r_h7 (hb : Byts bs) : fX1_half (pw z n h c sp pc bs) (7 : Int32) = bs 7 := p2_hi (hb 7) (fl_B z n h c)
theorem r_t0 (hb : Byts bs) (v : Int32) : fX1_setHalf (pw z n h c sp pc bs) (0 : Int32) v = pw z n h c sp pc (upd bs 0 (v &&& (255 : Int32))) := by
  show upd (pw z n h c sp pc bs) 1 (p2 (v &&& 255) (p2 (bs 0) (bs 1) &&& 255)) = _
  rw [p2_lo (hb 1)]
  funext j; rcases j with _ | _ | _ | _ | _ | _ | j <;> simp [pw, upd]
theorem r_t1 (hb : Byts bs) (v : Int32) : fX1_setHalf (pw z n h c sp pc bs) (1 : Int32) v = pw z n h c sp pc (upd bs 1 (v &&& (255 : Int32))) := by
  show upd (pw z n h c sp pc bs) 1 ((p2 (bs 0) (bs 1) &&& 65280) ||| (v &&& 255)) = _
  rw [p2_up (hb 0) (hb 1)]
  funext j; rcases j with _ | _ | _ | _ | _ | _ | j <;> simp [pw, upd]
theorem r_t2 (hb : Byts bs) (v : Int32) : fX1_setHalf (pw z n h c sp pc bs) (2 : Int32) v = pw z n h c sp pc (upd bs 2 (v &&& (255 : Int32))) := by
  show upd (pw z n h c sp pc bs) 2 (p2 (v &&& 255) (p2 (bs 2) (bs 3) &&& 255)) = _
  rw [p2_lo (hb 3)]
  funext j; rcases j with _ | _ | _ | _ | _ | _ | j <;> simp [pw, upd]
theorem r_t3 (hb : Byts bs) (v : Int32) : fX1_setHalf (pw z n h c sp pc bs) (3 : Int32) v = pw z n h c sp pc (upd bs 3 (v &&& (255 : Int32))) := by
  show upd (pw z n h c sp pc bs) 2 ((p2 (bs 2) (bs 3) &&& 65280) ||| (v &&& 255)) = _
  rw [p2_up (hb 2) (hb 3)]
  funext j; rcases j with _ | _ | _ | _ | _ | _ | j <;> simp [pw, upd]
theorem r_t4 (hb : Byts bs) (v : Int32) : fX1_setHalf (pw z n h c sp pc bs) (4 : Int32) v = pw z n h c sp pc (upd bs 4 (v &&& (255 : Int32))) := by
  show upd (pw z n h c sp pc bs) 3 (p2 (v &&& 255) (p2 (bs 4) (bs 5) &&& 255)) = _
  rw [p2_lo (hb 5)]
  funext j; rcases j with _ | _ | _ | _ | _ | _ | j <;> simp [pw, upd]
theorem r_t5 (hb : Byts bs) (v : Int32) : fX1_setHalf (pw z n h c sp pc bs) (5 : Int32) v = pw z n h c sp pc (upd bs 5 (v &&& (255 : Int32))) := by
  show upd (pw z n h c sp pc bs) 3 ((p2 (bs 4) (bs 5) &&& 65280) ||| (v &&& 255)) = _
  rw [p2_up (hb 4) (hb 5)]
  funext j; rcases j with _ | _ | _ | _ | _ | _ | j <;> simp [pw, upd]
theorem r_t7 (hb : Byts bs) (v : Int32) : fX1_setHalf (pw z n h c sp pc bs) (7 : Int32) v = pw z n h c sp pc (upd bs 7 (v &&& (255 : Int32))) := by
  show upd (pw z n h c sp pc bs) 0 (p2 (v &&& 255) (p2 (bs 7) (fX4_flags z n h c) &&& 255)) = _
  rw [p2_lo (fl_B z n h c)]
  funext j; rcases j with _ | _ | _ | _ | _ | _ | j <;> simp [pw, upd]
/-- memory -/
theorem at_B (p : Int32) : Byt (fX0_at mm p) := Byt.mk _
theorem at_m (p : Int32) : fX0_at mm (p &&& (65535 : Int32)) = fX0_at mm p := by
  show mm ((p &&& 65535) &&& 65535).toNatClampNeg &&& 255 = mm (p &&& 65535).toNatClampNeg &&& 255
  rw [mk_idem]
theorem i8_m (v : Int32) : (v &&& (255 : Int32)).toInt8 = v.toInt8 := by
  apply Int8.toBitVec_inj.mp
  rw [Int32.toBitVec_toInt8, Int32.toBitVec_toInt8, Int32.toBitVec_and]
  apply BitVec.eq_of_getLsbD_eq
  intro i hi
  have h255 : ∀ i, i < 8 → (255 : Int32).toBitVec.getLsbD i = true := by decide
  rw [BitVec.getLsbD_signExtend, BitVec.getLsbD_signExtend]
  simp only [show i < 32 by omega, hi, decide_true, if_true, Bool.true_and, BitVec.getLsbD_and, h255 i hi, Bool.and_true]
theorem wr_m (p v : Int32) : fX0_write mm cn (p &&& (65535 : Int32)) v = fX0_write mm cn p v := by
  unfold fX0_write; rw [mk_idem]
theorem wr_m2 (x y v : Int32) : fX0_write mm cn ((x &&& (65535 : Int32)) - y) v = fX0_write mm cn (x - y) v := by
  rw [← wr_m ((x &&& 65535) - y) v, mk_sub, wr_m]
theorem wr_b (p v : Int32) : fX0_write mm cn p (v &&& (255 : Int32)) = fX0_write mm cn p v := by
  unfold fX0_write; rw [i8_m]
theorem q_at (p : Int32) : fX4_at mm p = fX0_at mm p := rfl
theorem q_puts (p v : Int32) : fX4_puts mm p v = fX0_store mm p v := rfl
theorem q_reads (p : Int32) : fX4_reads cl mm p = (fX0_at mm p, cl + 1) := rfl
theorem q_writes (p v : Int32) : fX4_writes cn cl mm p v = ((fX0_write mm cn p v).2, cl + 1, (fX0_write mm cn p v).1) := by
  simp only [fX4_writes, fX0_write, kU1_e]
  by_cases q : p &&& 65535 = 65284
  · rw [kt_eq q, kt_eq q]; rfl
  · rw [kf_eq q, kf_eq q]; rfl
theorem q_fetch : fX4_fetch pc cl mm = (fX0_at mm pc, (pc + 1) &&& (65535 : Int32), cl + 1) := rfl
theorem q_fetchW : fX4_fetchWord pc cl mm = (fX0_at mm pc ||| (fX0_at mm (pc + 1) <<< ((8 : Int32) &&& (31 : Int32))), (pc + 2) &&& (65535 : Int32), cl + 2) := by
  show (fX0_at mm pc ||| (fX0_at mm ((pc + 1) &&& 65535) <<< ((8 : Int32) &&& (31 : Int32))), (((pc + 1) &&& 65535) + 1) &&& 65535, cl + 1 + 1) = _
  rw [at_m, mk_add, ad_11, ad_11]
theorem q_pop : fX4_pop sp cl mm = (fX0_at mm sp ||| (fX0_at mm (sp + 1) <<< ((8 : Int32) &&& (31 : Int32))), (sp + 2) &&& (65535 : Int32), cl + 2) := by
  show (fX0_at mm sp ||| (fX0_at mm (sp + 1) <<< ((8 : Int32) &&& (31 : Int32))), (sp + 2) &&& 65535, cl + 1 + 1) = _
  rw [ad_11]
/-- the memory and the counter behind a push -/
def pm (mm : Nat → Int32) (cn sp v : Int32) : (Nat → Int32) × Int32 := fX0_write (fX0_write mm cn (sp - 1) (v >>> ((8 : Int32) &&& (31 : Int32)))).1 (fX0_write mm cn (sp - 1) (v >>> ((8 : Int32) &&& (31 : Int32)))).2 (sp - 2) v
theorem q_push (v : Int32) : fX4_push sp cn cl mm v = ((sp - 2) &&& (65535 : Int32), (pm mm cn sp v).2, cl + 2, (pm mm cn sp v).1) := by
  simp only [fX4_push, kU1_e, kU3_e, q_writes, wr_m, wr_m2, wr_b, mk_sub, sb_11, ad_11, pm]
theorem cc_fetch : fX3_fetch mm (pw z n h c sp pc bs) = (fX0_at mm pc, pw z n h c sp ((pc + 1) &&& (65535 : Int32)) bs) := by
  simp only [fX3_fetch, kU1_e, kU2_e, r_w5, r_s5]
theorem cc_fetchW : fX3_fetchWord mm (pw z n h c sp pc bs) = (fX0_at mm pc ||| (fX0_at mm (pc + 1) <<< ((8 : Int32) &&& (31 : Int32))), pw z n h c sp ((pc + 2) &&& (65535 : Int32)) bs) := by
  simp only [fX3_fetchWord, kU1_e, kU2_e, r_w5, r_s5]
theorem cc_pop : fX3_pop mm (pw z n h c sp pc bs) = (fX0_at mm sp ||| (fX0_at mm (sp + 1) <<< ((8 : Int32) &&& (31 : Int32))), pw z n h c ((sp + 2) &&& (65535 : Int32)) pc bs) := by
  simp only [fX3_pop, kU1_e, kU2_e, r_w4, r_s4]
theorem cc_push (v : Int32) : fX3_push mm cn (pw z n h c sp pc bs) v = ((pm mm cn sp v).1, (pm mm cn sp v).2, pw z n h c ((sp - 2) &&& (65535 : Int32)) pc bs) := by
  simp only [fX3_push, kU1_e, kU2_e, r_w4, r_s4, pm]
/-- two bytes, the low one first -/
theorem lo_hi (a b : Int32) (ha : Byt a) (hb : Byt b) : a ||| (b <<< ((8 : Int32) &&& (31 : Int32))) = p2 b a := by
  apply b_ext; intro i _; rw [b_or, b_or, Bool.or_comm]
theorem fw_W (p q : Int32) : Wrd (fX0_at mm p ||| (fX0_at mm q <<< ((8 : Int32) &&& (31 : Int32)))) := by
  rw [lo_hi _ _ (at_B p) (at_B q)]; exact p2_W (at_B q) (at_B p)
theorem hl_W (hb : Byts bs) : Wrd (fX4_hl bs) := p2_W (hb 4) (hb 5)
theorem setPair_B (hb : Byts bs) (k v : Int32) : Byts (fX4_setPair bs k v) := (hb.up (Byt.mk _)).up (Byt.mk _)
/-- operands -/
def oc (a : Int32) : Int32 := if a = (6 : Int32) then 1 else 0
theorem q_opn {a : Int32} (ha : ¬ a = (6 : Int32)) : fX4_operand cl mm bs a = (bs a.toNatClampNeg, cl) := by unfold fX4_operand; rw [kf_eq ha]
theorem q_op6 : fX4_operand cl mm bs (6 : Int32) = (fX0_at mm (fX4_hl bs), cl + 1) := by unfold fX4_operand; rw [kt_eq rfl]; simp only [kU1_e, kU2_e, q_reads]
theorem c_opn {w : Nat → Int32} {a : Int32} (ha : ¬ a = (6 : Int32)) : fX3_operand mm w a = fX1_half w a := ((rfl : fX3_operand mm w a = fX3_operand mm w a).trans (kf_eq ha)).trans (kE1 rfl)
theorem c_op6 {w : Nat → Int32} : fX3_operand mm w (6 : Int32) = fX0_at mm (fX1_word w (3 : Int32)) := by unfold fX3_operand; rw [kt_eq rfl]; simp only [kU1_e]
theorem oc_n {a : Int32} (ha : ¬ a = (6 : Int32)) : cl = cl + oc a := by unfold oc; rw [if_neg ha, Int32.add_zero]
theorem oc_6 : cl + oc (6 : Int32) = cl + 1 := by unfold oc; rw [if_pos rfl]
theorem s_operand {a : Int32} (ha : vp_in a 8) (hb : Byts bs) : fX3_operand mm (pw z n h c sp pc bs) a = (fX4_operand cl mm bs a).1 ∧ (fX4_operand cl mm bs a).2 = cl + oc a ∧ Byt (fX4_operand cl mm bs a).1 := by
  by_cases h6 : a = 6
  · subst h6; rw [q_op6, c_op6, r_w3, oc_6]; exact ⟨rfl, rfl, at_B _⟩
  · rw [q_opn h6, c_opn h6]
    refine ⟨?_, oc_n h6, hb _⟩
    rcases c8 ha with rfl | rfl | rfl | rfl | rfl | rfl | rfl | rfl
    · exact r_h0 hb
    · exact r_h1 hb
    · exact r_h2 hb
    · exact r_h3 hb
    · exact r_h4 hb
    · exact r_h5 hb
    · exact absurd rfl h6
    · exact r_h7 hb
theorem s_setOp {a : Int32} (ha : vp_in a 8) (hb : Byts bs) (v : Int32) : fX3_setOperand mm cn (pw z n h c sp pc bs) a v = ((fX4_setOperand cn cl mm bs a v).2.2.1, (fX4_setOperand cn cl mm bs a v).1, pw z n h c sp pc (fX4_setOperand cn cl mm bs a v).2.2.2) ∧ (fX4_setOperand cn cl mm bs a v).2.1 = cl + oc a ∧ Byts (fX4_setOperand cn cl mm bs a v).2.2.2 := by
  rcases c8 ha with rfl | rfl | rfl | rfl | rfl | rfl | rfl | rfl
  · exact ⟨congrArg (fun w => (mm, cn, w)) (r_t0 hb v), (Int32.add_zero cl).symm, hb.up (Byt.mk v)⟩
  · exact ⟨congrArg (fun w => (mm, cn, w)) (r_t1 hb v), (Int32.add_zero cl).symm, hb.up (Byt.mk v)⟩
  · exact ⟨congrArg (fun w => (mm, cn, w)) (r_t2 hb v), (Int32.add_zero cl).symm, hb.up (Byt.mk v)⟩
  · exact ⟨congrArg (fun w => (mm, cn, w)) (r_t3 hb v), (Int32.add_zero cl).symm, hb.up (Byt.mk v)⟩
  · exact ⟨congrArg (fun w => (mm, cn, w)) (r_t4 hb v), (Int32.add_zero cl).symm, hb.up (Byt.mk v)⟩
  · exact ⟨congrArg (fun w => (mm, cn, w)) (r_t5 hb v), (Int32.add_zero cl).symm, hb.up (Byt.mk v)⟩
  · have e : fX4_setOperand cn cl mm bs 6 v = ((fX0_write mm cn (fX4_hl bs) v).2, cl + 1, (fX0_write mm cn (fX4_hl bs) v).1, bs) := by
      unfold fX4_setOperand; rw [kt_eq rfl]; simp only [kU1_e, kU3_e, q_writes, wr_b]
    rw [e]; exact ⟨rfl, rfl, hb⟩
  · exact ⟨congrArg (fun w => (mm, cn, w)) (r_t7 hb v), (Int32.add_zero cl).symm, hb.up (Byt.mk v)⟩
theorem s_holds {k : Int32} (hk : k = 0 ∨ k = 1 ∨ k = 2 ∨ k = 3) : fX3_holds (pw z n h c sp pc bs) k = fX4_holds z c k := by
  rcases hk with rfl | rfl | rfl | rfl
  · show kIf (kEq (bI (fX1_flag (pw z n h c sp pc bs) 128)) (bI false)) true false = _
    rw [r_fZ]; cases z <;> rfl
  · show kIf (kEq (bI (fX1_flag (pw z n h c sp pc bs) 128)) (bI true)) true false = _
    rw [r_fZ]; cases z <;> rfl
  · show kIf (kEq (bI (fX1_flag (pw z n h c sp pc bs) 16)) (bI false)) true false = _
    rw [r_fC]; cases c <;> rfl
  · show kIf (kEq (bI (fX1_flag (pw z n h c sp pc bs) 16)) (bI true)) true false = _
    rw [r_fC]; cases c <;> rfl
end S1
