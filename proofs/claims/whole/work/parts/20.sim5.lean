theorem S_c0 {z n h c on wt bg : Bool} {sp pc pc1 cn : Int32} {bs mm : Nat → Int32} (hb : Byts bs) (hsp : Wrd sp) (hpc : Wrd pc1) (hpc0 : Wrd pc) (hwb : (wt && bg) = false) (hp1 : (kIf (kEq (bI bg) (0 : Int32)) (kU1 ((pc + (1 : Int32)) &&& (65535 : Int32)) (fun (x5 : Int32) => x5)) pc) = pc1) (j : Nat) (h1 : 0 ≤ j) (h2 : j < 16) (hn : fX4_isNone (nI j) = false) (hop : fX4_reads (0 : Int32) mm pc = (nI j, (0 : Int32) + (1 : Int32))) : SimX wt (nI j) (tb_base ((nI j) &&& (255 : Int32)).toNatClampNeg) (fX3_execute on wt false false mm cn (pw z n h c sp pc1 bs) (nI j)) (fX4_instruction z n h c sp pc on wt false bg cn (0 : Int32) false wt mm bs) := by
  rcases (show j = 0 ∨ j = 1 ∨ j = 2 ∨ j = 3 ∨ j = 4 ∨ j = 5 ∨ j = 6 ∨ j = 7 ∨ j = 8 ∨ j = 9 ∨ j = 10 ∨ j = 11 ∨ j = 12 ∨ j = 13 ∨ j = 14 ∨ j = 15 by omega) with rfl | rfl | rfl | rfl | rfl | rfl | rfl | rfl | rfl | rfl | rfl | rfl | rfl | rfl | rfl | rfl
  · rw [show tb_base ((nI 0) &&& (255 : Int32)).toNatClampNeg = (1 : Int32) by decide]; exact S_0 hb hsp hpc hop hp1
  · rw [show tb_base ((nI 1) &&& (255 : Int32)).toNatClampNeg = (3 : Int32) by decide]; exact S_1 hb hsp hpc hop hp1
  · rw [show tb_base ((nI 2) &&& (255 : Int32)).toNatClampNeg = (2 : Int32) by decide]; exact S_2 hb hsp hpc hop hp1
  · rw [show tb_base ((nI 3) &&& (255 : Int32)).toNatClampNeg = (2 : Int32) by decide]; exact S_3 hb hsp hpc hop hp1
  · rw [show tb_base ((nI 4) &&& (255 : Int32)).toNatClampNeg = (1 : Int32) by decide]; exact S_4 hb hsp hpc hop hp1
  · rw [show tb_base ((nI 5) &&& (255 : Int32)).toNatClampNeg = (1 : Int32) by decide]; exact S_5 hb hsp hpc hop hp1
  · rw [show tb_base ((nI 6) &&& (255 : Int32)).toNatClampNeg = (2 : Int32) by decide]; exact S_6 hb hsp hpc hop hp1
  · rw [show tb_base ((nI 7) &&& (255 : Int32)).toNatClampNeg = (1 : Int32) by decide]; exact S_7 hb hsp hpc hop hp1
  · rw [show tb_base ((nI 8) &&& (255 : Int32)).toNatClampNeg = (5 : Int32) by decide]; exact S_8 hb hsp hpc hop hp1
  · rw [show tb_base ((nI 9) &&& (255 : Int32)).toNatClampNeg = (2 : Int32) by decide]; exact S_9 hb hsp hpc hop hp1
  · rw [show tb_base ((nI 10) &&& (255 : Int32)).toNatClampNeg = (2 : Int32) by decide]; exact S_10 hb hsp hpc hop hp1
  · rw [show tb_base ((nI 11) &&& (255 : Int32)).toNatClampNeg = (2 : Int32) by decide]; exact S_11 hb hsp hpc hop hp1
  · rw [show tb_base ((nI 12) &&& (255 : Int32)).toNatClampNeg = (1 : Int32) by decide]; exact S_12 hb hsp hpc hop hp1
  · rw [show tb_base ((nI 13) &&& (255 : Int32)).toNatClampNeg = (1 : Int32) by decide]; exact S_13 hb hsp hpc hop hp1
  · rw [show tb_base ((nI 14) &&& (255 : Int32)).toNatClampNeg = (2 : Int32) by decide]; exact S_14 hb hsp hpc hop hp1
  · rw [show tb_base ((nI 15) &&& (255 : Int32)).toNatClampNeg = (1 : Int32) by decide]; exact S_15 hb hsp hpc hop hp1
theorem S_c1 {z n h c on wt bg : Bool} {sp pc pc1 cn : Int32} {bs mm : Nat → Int32} (hb : Byts bs) (hsp : Wrd sp) (hpc : Wrd pc1) (hpc0 : Wrd pc) (hwb : (wt && bg) = false) (hp1 : (kIf (kEq (bI bg) (0 : Int32)) (kU1 ((pc + (1 : Int32)) &&& (65535 : Int32)) (fun (x5 : Int32) => x5)) pc) = pc1) (j : Nat) (h1 : 16 ≤ j) (h2 : j < 32) (hn : fX4_isNone (nI j) = false) (hop : fX4_reads (0 : Int32) mm pc = (nI j, (0 : Int32) + (1 : Int32))) : SimX wt (nI j) (tb_base ((nI j) &&& (255 : Int32)).toNatClampNeg) (fX3_execute on wt false false mm cn (pw z n h c sp pc1 bs) (nI j)) (fX4_instruction z n h c sp pc on wt false bg cn (0 : Int32) false wt mm bs) := by
  rcases (show j = 16 ∨ j = 17 ∨ j = 18 ∨ j = 19 ∨ j = 20 ∨ j = 21 ∨ j = 22 ∨ j = 23 ∨ j = 24 ∨ j = 25 ∨ j = 26 ∨ j = 27 ∨ j = 28 ∨ j = 29 ∨ j = 30 ∨ j = 31 by omega) with rfl | rfl | rfl | rfl | rfl | rfl | rfl | rfl | rfl | rfl | rfl | rfl | rfl | rfl | rfl | rfl
  · exact absurd hn (by decide)
  · rw [show tb_base ((nI 17) &&& (255 : Int32)).toNatClampNeg = (3 : Int32) by decide]; exact S_17 hb hsp hpc hop hp1
  · rw [show tb_base ((nI 18) &&& (255 : Int32)).toNatClampNeg = (2 : Int32) by decide]; exact S_18 hb hsp hpc hop hp1
  · rw [show tb_base ((nI 19) &&& (255 : Int32)).toNatClampNeg = (2 : Int32) by decide]; exact S_19 hb hsp hpc hop hp1
  · rw [show tb_base ((nI 20) &&& (255 : Int32)).toNatClampNeg = (1 : Int32) by decide]; exact S_20 hb hsp hpc hop hp1
  · rw [show tb_base ((nI 21) &&& (255 : Int32)).toNatClampNeg = (1 : Int32) by decide]; exact S_21 hb hsp hpc hop hp1
  · rw [show tb_base ((nI 22) &&& (255 : Int32)).toNatClampNeg = (2 : Int32) by decide]; exact S_22 hb hsp hpc hop hp1
  · rw [show tb_base ((nI 23) &&& (255 : Int32)).toNatClampNeg = (1 : Int32) by decide]; exact S_23 hb hsp hpc hop hp1
  · rw [show tb_base ((nI 24) &&& (255 : Int32)).toNatClampNeg = (2 : Int32) by decide]; exact S_24 hb hsp hpc hop hp1
  · rw [show tb_base ((nI 25) &&& (255 : Int32)).toNatClampNeg = (2 : Int32) by decide]; exact S_25 hb hsp hpc hop hp1
  · rw [show tb_base ((nI 26) &&& (255 : Int32)).toNatClampNeg = (2 : Int32) by decide]; exact S_26 hb hsp hpc hop hp1
  · rw [show tb_base ((nI 27) &&& (255 : Int32)).toNatClampNeg = (2 : Int32) by decide]; exact S_27 hb hsp hpc hop hp1
  · rw [show tb_base ((nI 28) &&& (255 : Int32)).toNatClampNeg = (1 : Int32) by decide]; exact S_28 hb hsp hpc hop hp1
  · rw [show tb_base ((nI 29) &&& (255 : Int32)).toNatClampNeg = (1 : Int32) by decide]; exact S_29 hb hsp hpc hop hp1
  · rw [show tb_base ((nI 30) &&& (255 : Int32)).toNatClampNeg = (2 : Int32) by decide]; exact S_30 hb hsp hpc hop hp1
  · rw [show tb_base ((nI 31) &&& (255 : Int32)).toNatClampNeg = (1 : Int32) by decide]; exact S_31 hb hsp hpc hop hp1
theorem S_c2 {z n h c on wt bg : Bool} {sp pc pc1 cn : Int32} {bs mm : Nat → Int32} (hb : Byts bs) (hsp : Wrd sp) (hpc : Wrd pc1) (hpc0 : Wrd pc) (hwb : (wt && bg) = false) (hp1 : (kIf (kEq (bI bg) (0 : Int32)) (kU1 ((pc + (1 : Int32)) &&& (65535 : Int32)) (fun (x5 : Int32) => x5)) pc) = pc1) (j : Nat) (h1 : 32 ≤ j) (h2 : j < 48) (hn : fX4_isNone (nI j) = false) (hop : fX4_reads (0 : Int32) mm pc = (nI j, (0 : Int32) + (1 : Int32))) : SimX wt (nI j) (tb_base ((nI j) &&& (255 : Int32)).toNatClampNeg) (fX3_execute on wt false false mm cn (pw z n h c sp pc1 bs) (nI j)) (fX4_instruction z n h c sp pc on wt false bg cn (0 : Int32) false wt mm bs) := by
  rcases (show j = 32 ∨ j = 33 ∨ j = 34 ∨ j = 35 ∨ j = 36 ∨ j = 37 ∨ j = 38 ∨ j = 39 ∨ j = 40 ∨ j = 41 ∨ j = 42 ∨ j = 43 ∨ j = 44 ∨ j = 45 ∨ j = 46 ∨ j = 47 by omega) with rfl | rfl | rfl | rfl | rfl | rfl | rfl | rfl | rfl | rfl | rfl | rfl | rfl | rfl | rfl | rfl
  · rw [show tb_base ((nI 32) &&& (255 : Int32)).toNatClampNeg = (2 : Int32) by decide]; exact S_32 hb hsp hpc hop hp1
  · rw [show tb_base ((nI 33) &&& (255 : Int32)).toNatClampNeg = (3 : Int32) by decide]; exact S_33 hb hsp hpc hop hp1
  · rw [show tb_base ((nI 34) &&& (255 : Int32)).toNatClampNeg = (2 : Int32) by decide]; exact S_34 hb hsp hpc hop hp1
  · rw [show tb_base ((nI 35) &&& (255 : Int32)).toNatClampNeg = (2 : Int32) by decide]; exact S_35 hb hsp hpc hop hp1
  · rw [show tb_base ((nI 36) &&& (255 : Int32)).toNatClampNeg = (1 : Int32) by decide]; exact S_36 hb hsp hpc hop hp1
  · rw [show tb_base ((nI 37) &&& (255 : Int32)).toNatClampNeg = (1 : Int32) by decide]; exact S_37 hb hsp hpc hop hp1
  · rw [show tb_base ((nI 38) &&& (255 : Int32)).toNatClampNeg = (2 : Int32) by decide]; exact S_38 hb hsp hpc hop hp1
  · rw [show tb_base ((nI 39) &&& (255 : Int32)).toNatClampNeg = (1 : Int32) by decide]; exact S_39 hb hsp hpc hop hp1
  · rw [show tb_base ((nI 40) &&& (255 : Int32)).toNatClampNeg = (2 : Int32) by decide]; exact S_40 hb hsp hpc hop hp1
  · rw [show tb_base ((nI 41) &&& (255 : Int32)).toNatClampNeg = (2 : Int32) by decide]; exact S_41 hb hsp hpc hop hp1
  · rw [show tb_base ((nI 42) &&& (255 : Int32)).toNatClampNeg = (2 : Int32) by decide]; exact S_42 hb hsp hpc hop hp1
  · rw [show tb_base ((nI 43) &&& (255 : Int32)).toNatClampNeg = (2 : Int32) by decide]; exact S_43 hb hsp hpc hop hp1
  · rw [show tb_base ((nI 44) &&& (255 : Int32)).toNatClampNeg = (1 : Int32) by decide]; exact S_44 hb hsp hpc hop hp1
  · rw [show tb_base ((nI 45) &&& (255 : Int32)).toNatClampNeg = (1 : Int32) by decide]; exact S_45 hb hsp hpc hop hp1
  · rw [show tb_base ((nI 46) &&& (255 : Int32)).toNatClampNeg = (2 : Int32) by decide]; exact S_46 hb hsp hpc hop hp1
  · rw [show tb_base ((nI 47) &&& (255 : Int32)).toNatClampNeg = (1 : Int32) by decide]; exact S_47 hb hsp hpc hop hp1
theorem S_c3 {z n h c on wt bg : Bool} {sp pc pc1 cn : Int32} {bs mm : Nat → Int32} (hb : Byts bs) (hsp : Wrd sp) (hpc : Wrd pc1) (hpc0 : Wrd pc) (hwb : (wt && bg) = false) (hp1 : (kIf (kEq (bI bg) (0 : Int32)) (kU1 ((pc + (1 : Int32)) &&& (65535 : Int32)) (fun (x5 : Int32) => x5)) pc) = pc1) (j : Nat) (h1 : 48 ≤ j) (h2 : j < 64) (hn : fX4_isNone (nI j) = false) (hop : fX4_reads (0 : Int32) mm pc = (nI j, (0 : Int32) + (1 : Int32))) : SimX wt (nI j) (tb_base ((nI j) &&& (255 : Int32)).toNatClampNeg) (fX3_execute on wt false false mm cn (pw z n h c sp pc1 bs) (nI j)) (fX4_instruction z n h c sp pc on wt false bg cn (0 : Int32) false wt mm bs) := by
  rcases (show j = 48 ∨ j = 49 ∨ j = 50 ∨ j = 51 ∨ j = 52 ∨ j = 53 ∨ j = 54 ∨ j = 55 ∨ j = 56 ∨ j = 57 ∨ j = 58 ∨ j = 59 ∨ j = 60 ∨ j = 61 ∨ j = 62 ∨ j = 63 by omega) with rfl | rfl | rfl | rfl | rfl | rfl | rfl | rfl | rfl | rfl | rfl | rfl | rfl | rfl | rfl | rfl
  · rw [show tb_base ((nI 48) &&& (255 : Int32)).toNatClampNeg = (2 : Int32) by decide]; exact S_48 hb hsp hpc hop hp1
  · rw [show tb_base ((nI 49) &&& (255 : Int32)).toNatClampNeg = (3 : Int32) by decide]; exact S_49 hb hsp hpc hop hp1
  · rw [show tb_base ((nI 50) &&& (255 : Int32)).toNatClampNeg = (2 : Int32) by decide]; exact S_50 hb hsp hpc hop hp1
  · rw [show tb_base ((nI 51) &&& (255 : Int32)).toNatClampNeg = (2 : Int32) by decide]; exact S_51 hb hsp hpc hop hp1
  · rw [show tb_base ((nI 52) &&& (255 : Int32)).toNatClampNeg = (3 : Int32) by decide]; exact S_52 hb hsp hpc hop hp1
  · rw [show tb_base ((nI 53) &&& (255 : Int32)).toNatClampNeg = (3 : Int32) by decide]; exact S_53 hb hsp hpc hop hp1
  · rw [show tb_base ((nI 54) &&& (255 : Int32)).toNatClampNeg = (3 : Int32) by decide]; exact S_54 hb hsp hpc hop hp1
  · rw [show tb_base ((nI 55) &&& (255 : Int32)).toNatClampNeg = (1 : Int32) by decide]; exact S_55 hb hsp hpc hop hp1
  · rw [show tb_base ((nI 56) &&& (255 : Int32)).toNatClampNeg = (2 : Int32) by decide]; exact S_56 hb hsp hpc hop hp1
  · rw [show tb_base ((nI 57) &&& (255 : Int32)).toNatClampNeg = (2 : Int32) by decide]; exact S_57 hb hsp hpc hop hp1
  · rw [show tb_base ((nI 58) &&& (255 : Int32)).toNatClampNeg = (2 : Int32) by decide]; exact S_58 hb hsp hpc hop hp1
  · rw [show tb_base ((nI 59) &&& (255 : Int32)).toNatClampNeg = (2 : Int32) by decide]; exact S_59 hb hsp hpc hop hp1
  · rw [show tb_base ((nI 60) &&& (255 : Int32)).toNatClampNeg = (1 : Int32) by decide]; exact S_60 hb hsp hpc hop hp1
  · rw [show tb_base ((nI 61) &&& (255 : Int32)).toNatClampNeg = (1 : Int32) by decide]; exact S_61 hb hsp hpc hop hp1
  · rw [show tb_base ((nI 62) &&& (255 : Int32)).toNatClampNeg = (2 : Int32) by decide]; exact S_62 hb hsp hpc hop hp1
  · rw [show tb_base ((nI 63) &&& (255 : Int32)).toNatClampNeg = (1 : Int32) by decide]; exact S_63 hb hsp hpc hop hp1
theorem S_c4 {z n h c on wt bg : Bool} {sp pc pc1 cn : Int32} {bs mm : Nat → Int32} (hb : Byts bs) (hsp : Wrd sp) (hpc : Wrd pc1) (hpc0 : Wrd pc) (hwb : (wt && bg) = false) (hp1 : (kIf (kEq (bI bg) (0 : Int32)) (kU1 ((pc + (1 : Int32)) &&& (65535 : Int32)) (fun (x5 : Int32) => x5)) pc) = pc1) (j : Nat) (h1 : 64 ≤ j) (h2 : j < 80) (hn : fX4_isNone (nI j) = false) (hop : fX4_reads (0 : Int32) mm pc = (nI j, (0 : Int32) + (1 : Int32))) : SimX wt (nI j) (tb_base ((nI j) &&& (255 : Int32)).toNatClampNeg) (fX3_execute on wt false false mm cn (pw z n h c sp pc1 bs) (nI j)) (fX4_instruction z n h c sp pc on wt false bg cn (0 : Int32) false wt mm bs) := by
  rcases (show j = 64 ∨ j = 65 ∨ j = 66 ∨ j = 67 ∨ j = 68 ∨ j = 69 ∨ j = 70 ∨ j = 71 ∨ j = 72 ∨ j = 73 ∨ j = 74 ∨ j = 75 ∨ j = 76 ∨ j = 77 ∨ j = 78 ∨ j = 79 by omega) with rfl | rfl | rfl | rfl | rfl | rfl | rfl | rfl | rfl | rfl | rfl | rfl | rfl | rfl | rfl | rfl
  · rw [show tb_base ((nI 64) &&& (255 : Int32)).toNatClampNeg = (1 : Int32) by decide]; exact S_64 hb hsp hpc hop hp1
  · rw [show tb_base ((nI 65) &&& (255 : Int32)).toNatClampNeg = (1 : Int32) by decide]; exact S_65 hb hsp hpc hop hp1
  · rw [show tb_base ((nI 66) &&& (255 : Int32)).toNatClampNeg = (1 : Int32) by decide]; exact S_66 hb hsp hpc hop hp1
  · rw [show tb_base ((nI 67) &&& (255 : Int32)).toNatClampNeg = (1 : Int32) by decide]; exact S_67 hb hsp hpc hop hp1
  · rw [show tb_base ((nI 68) &&& (255 : Int32)).toNatClampNeg = (1 : Int32) by decide]; exact S_68 hb hsp hpc hop hp1
  · rw [show tb_base ((nI 69) &&& (255 : Int32)).toNatClampNeg = (1 : Int32) by decide]; exact S_69 hb hsp hpc hop hp1
  · rw [show tb_base ((nI 70) &&& (255 : Int32)).toNatClampNeg = (2 : Int32) by decide]; exact S_70 hb hsp hpc hop hp1
  · rw [show tb_base ((nI 71) &&& (255 : Int32)).toNatClampNeg = (1 : Int32) by decide]; exact S_71 hb hsp hpc hop hp1
  · rw [show tb_base ((nI 72) &&& (255 : Int32)).toNatClampNeg = (1 : Int32) by decide]; exact S_72 hb hsp hpc hop hp1
  · rw [show tb_base ((nI 73) &&& (255 : Int32)).toNatClampNeg = (1 : Int32) by decide]; exact S_73 hb hsp hpc hop hp1
  · rw [show tb_base ((nI 74) &&& (255 : Int32)).toNatClampNeg = (1 : Int32) by decide]; exact S_74 hb hsp hpc hop hp1
  · rw [show tb_base ((nI 75) &&& (255 : Int32)).toNatClampNeg = (1 : Int32) by decide]; exact S_75 hb hsp hpc hop hp1
  · rw [show tb_base ((nI 76) &&& (255 : Int32)).toNatClampNeg = (1 : Int32) by decide]; exact S_76 hb hsp hpc hop hp1
  · rw [show tb_base ((nI 77) &&& (255 : Int32)).toNatClampNeg = (1 : Int32) by decide]; exact S_77 hb hsp hpc hop hp1
  · rw [show tb_base ((nI 78) &&& (255 : Int32)).toNatClampNeg = (2 : Int32) by decide]; exact S_78 hb hsp hpc hop hp1
  · rw [show tb_base ((nI 79) &&& (255 : Int32)).toNatClampNeg = (1 : Int32) by decide]; exact S_79 hb hsp hpc hop hp1
theorem S_c5 {z n h c on wt bg : Bool} {sp pc pc1 cn : Int32} {bs mm : Nat → Int32} (hb : Byts bs) (hsp : Wrd sp) (hpc : Wrd pc1) (hpc0 : Wrd pc) (hwb : (wt && bg) = false) (hp1 : (kIf (kEq (bI bg) (0 : Int32)) (kU1 ((pc + (1 : Int32)) &&& (65535 : Int32)) (fun (x5 : Int32) => x5)) pc) = pc1) (j : Nat) (h1 : 80 ≤ j) (h2 : j < 96) (hn : fX4_isNone (nI j) = false) (hop : fX4_reads (0 : Int32) mm pc = (nI j, (0 : Int32) + (1 : Int32))) : SimX wt (nI j) (tb_base ((nI j) &&& (255 : Int32)).toNatClampNeg) (fX3_execute on wt false false mm cn (pw z n h c sp pc1 bs) (nI j)) (fX4_instruction z n h c sp pc on wt false bg cn (0 : Int32) false wt mm bs) := by
  rcases (show j = 80 ∨ j = 81 ∨ j = 82 ∨ j = 83 ∨ j = 84 ∨ j = 85 ∨ j = 86 ∨ j = 87 ∨ j = 88 ∨ j = 89 ∨ j = 90 ∨ j = 91 ∨ j = 92 ∨ j = 93 ∨ j = 94 ∨ j = 95 by omega) with rfl | rfl | rfl | rfl | rfl | rfl | rfl | rfl | rfl | rfl | rfl | rfl | rfl | rfl | rfl | rfl
  · rw [show tb_base ((nI 80) &&& (255 : Int32)).toNatClampNeg = (1 : Int32) by decide]; exact S_80 hb hsp hpc hop hp1
  · rw [show tb_base ((nI 81) &&& (255 : Int32)).toNatClampNeg = (1 : Int32) by decide]; exact S_81 hb hsp hpc hop hp1
  · rw [show tb_base ((nI 82) &&& (255 : Int32)).toNatClampNeg = (1 : Int32) by decide]; exact S_82 hb hsp hpc hop hp1
  · rw [show tb_base ((nI 83) &&& (255 : Int32)).toNatClampNeg = (1 : Int32) by decide]; exact S_83 hb hsp hpc hop hp1
  · rw [show tb_base ((nI 84) &&& (255 : Int32)).toNatClampNeg = (1 : Int32) by decide]; exact S_84 hb hsp hpc hop hp1
  · rw [show tb_base ((nI 85) &&& (255 : Int32)).toNatClampNeg = (1 : Int32) by decide]; exact S_85 hb hsp hpc hop hp1
  · rw [show tb_base ((nI 86) &&& (255 : Int32)).toNatClampNeg = (2 : Int32) by decide]; exact S_86 hb hsp hpc hop hp1
  · rw [show tb_base ((nI 87) &&& (255 : Int32)).toNatClampNeg = (1 : Int32) by decide]; exact S_87 hb hsp hpc hop hp1
  · rw [show tb_base ((nI 88) &&& (255 : Int32)).toNatClampNeg = (1 : Int32) by decide]; exact S_88 hb hsp hpc hop hp1
  · rw [show tb_base ((nI 89) &&& (255 : Int32)).toNatClampNeg = (1 : Int32) by decide]; exact S_89 hb hsp hpc hop hp1
  · rw [show tb_base ((nI 90) &&& (255 : Int32)).toNatClampNeg = (1 : Int32) by decide]; exact S_90 hb hsp hpc hop hp1
  · rw [show tb_base ((nI 91) &&& (255 : Int32)).toNatClampNeg = (1 : Int32) by decide]; exact S_91 hb hsp hpc hop hp1
  · rw [show tb_base ((nI 92) &&& (255 : Int32)).toNatClampNeg = (1 : Int32) by decide]; exact S_92 hb hsp hpc hop hp1
  · rw [show tb_base ((nI 93) &&& (255 : Int32)).toNatClampNeg = (1 : Int32) by decide]; exact S_93 hb hsp hpc hop hp1
  · rw [show tb_base ((nI 94) &&& (255 : Int32)).toNatClampNeg = (2 : Int32) by decide]; exact S_94 hb hsp hpc hop hp1
  · rw [show tb_base ((nI 95) &&& (255 : Int32)).toNatClampNeg = (1 : Int32) by decide]; exact S_95 hb hsp hpc hop hp1
theorem S_c6 {z n h c on wt bg : Bool} {sp pc pc1 cn : Int32} {bs mm : Nat → Int32} (hb : Byts bs) (hsp : Wrd sp) (hpc : Wrd pc1) (hpc0 : Wrd pc) (hwb : (wt && bg) = false) (hp1 : (kIf (kEq (bI bg) (0 : Int32)) (kU1 ((pc + (1 : Int32)) &&& (65535 : Int32)) (fun (x5 : Int32) => x5)) pc) = pc1) (j : Nat) (h1 : 96 ≤ j) (h2 : j < 112) (hn : fX4_isNone (nI j) = false) (hop : fX4_reads (0 : Int32) mm pc = (nI j, (0 : Int32) + (1 : Int32))) : SimX wt (nI j) (tb_base ((nI j) &&& (255 : Int32)).toNatClampNeg) (fX3_execute on wt false false mm cn (pw z n h c sp pc1 bs) (nI j)) (fX4_instruction z n h c sp pc on wt false bg cn (0 : Int32) false wt mm bs) := by
  rcases (show j = 96 ∨ j = 97 ∨ j = 98 ∨ j = 99 ∨ j = 100 ∨ j = 101 ∨ j = 102 ∨ j = 103 ∨ j = 104 ∨ j = 105 ∨ j = 106 ∨ j = 107 ∨ j = 108 ∨ j = 109 ∨ j = 110 ∨ j = 111 by omega) with rfl | rfl | rfl | rfl | rfl | rfl | rfl | rfl | rfl | rfl | rfl | rfl | rfl | rfl | rfl | rfl
  · rw [show tb_base ((nI 96) &&& (255 : Int32)).toNatClampNeg = (1 : Int32) by decide]; exact S_96 hb hsp hpc hop hp1
  · rw [show tb_base ((nI 97) &&& (255 : Int32)).toNatClampNeg = (1 : Int32) by decide]; exact S_97 hb hsp hpc hop hp1
  · rw [show tb_base ((nI 98) &&& (255 : Int32)).toNatClampNeg = (1 : Int32) by decide]; exact S_98 hb hsp hpc hop hp1
  · rw [show tb_base ((nI 99) &&& (255 : Int32)).toNatClampNeg = (1 : Int32) by decide]; exact S_99 hb hsp hpc hop hp1
  · rw [show tb_base ((nI 100) &&& (255 : Int32)).toNatClampNeg = (1 : Int32) by decide]; exact S_100 hb hsp hpc hop hp1
  · rw [show tb_base ((nI 101) &&& (255 : Int32)).toNatClampNeg = (1 : Int32) by decide]; exact S_101 hb hsp hpc hop hp1
  · rw [show tb_base ((nI 102) &&& (255 : Int32)).toNatClampNeg = (2 : Int32) by decide]; exact S_102 hb hsp hpc hop hp1
  · rw [show tb_base ((nI 103) &&& (255 : Int32)).toNatClampNeg = (1 : Int32) by decide]; exact S_103 hb hsp hpc hop hp1
  · rw [show tb_base ((nI 104) &&& (255 : Int32)).toNatClampNeg = (1 : Int32) by decide]; exact S_104 hb hsp hpc hop hp1
  · rw [show tb_base ((nI 105) &&& (255 : Int32)).toNatClampNeg = (1 : Int32) by decide]; exact S_105 hb hsp hpc hop hp1
  · rw [show tb_base ((nI 106) &&& (255 : Int32)).toNatClampNeg = (1 : Int32) by decide]; exact S_106 hb hsp hpc hop hp1
  · rw [show tb_base ((nI 107) &&& (255 : Int32)).toNatClampNeg = (1 : Int32) by decide]; exact S_107 hb hsp hpc hop hp1
  · rw [show tb_base ((nI 108) &&& (255 : Int32)).toNatClampNeg = (1 : Int32) by decide]; exact S_108 hb hsp hpc hop hp1
  · rw [show tb_base ((nI 109) &&& (255 : Int32)).toNatClampNeg = (1 : Int32) by decide]; exact S_109 hb hsp hpc hop hp1
  · rw [show tb_base ((nI 110) &&& (255 : Int32)).toNatClampNeg = (2 : Int32) by decide]; exact S_110 hb hsp hpc hop hp1
  · rw [show tb_base ((nI 111) &&& (255 : Int32)).toNatClampNeg = (1 : Int32) by decide]; exact S_111 hb hsp hpc hop hp1
theorem S_c7 {z n h c on wt bg : Bool} {sp pc pc1 cn : Int32} {bs mm : Nat → Int32} (hb : Byts bs) (hsp : Wrd sp) (hpc : Wrd pc1) (hpc0 : Wrd pc) (hwb : (wt && bg) = false) (hp1 : (kIf (kEq (bI bg) (0 : Int32)) (kU1 ((pc + (1 : Int32)) &&& (65535 : Int32)) (fun (x5 : Int32) => x5)) pc) = pc1) (j : Nat) (h1 : 112 ≤ j) (h2 : j < 128) (hn : fX4_isNone (nI j) = false) (hop : fX4_reads (0 : Int32) mm pc = (nI j, (0 : Int32) + (1 : Int32))) : SimX wt (nI j) (tb_base ((nI j) &&& (255 : Int32)).toNatClampNeg) (fX3_execute on wt false false mm cn (pw z n h c sp pc1 bs) (nI j)) (fX4_instruction z n h c sp pc on wt false bg cn (0 : Int32) false wt mm bs) := by
  rcases (show j = 112 ∨ j = 113 ∨ j = 114 ∨ j = 115 ∨ j = 116 ∨ j = 117 ∨ j = 118 ∨ j = 119 ∨ j = 120 ∨ j = 121 ∨ j = 122 ∨ j = 123 ∨ j = 124 ∨ j = 125 ∨ j = 126 ∨ j = 127 by omega) with rfl | rfl | rfl | rfl | rfl | rfl | rfl | rfl | rfl | rfl | rfl | rfl | rfl | rfl | rfl | rfl
  · rw [show tb_base ((nI 112) &&& (255 : Int32)).toNatClampNeg = (2 : Int32) by decide]; exact S_112 hb hsp hpc hop hp1
  · rw [show tb_base ((nI 113) &&& (255 : Int32)).toNatClampNeg = (2 : Int32) by decide]; exact S_113 hb hsp hpc hop hp1
  · rw [show tb_base ((nI 114) &&& (255 : Int32)).toNatClampNeg = (2 : Int32) by decide]; exact S_114 hb hsp hpc hop hp1
  · rw [show tb_base ((nI 115) &&& (255 : Int32)).toNatClampNeg = (2 : Int32) by decide]; exact S_115 hb hsp hpc hop hp1
  · rw [show tb_base ((nI 116) &&& (255 : Int32)).toNatClampNeg = (2 : Int32) by decide]; exact S_116 hb hsp hpc hop hp1
  · rw [show tb_base ((nI 117) &&& (255 : Int32)).toNatClampNeg = (2 : Int32) by decide]; exact S_117 hb hsp hpc hop hp1
  · rw [show tb_base ((nI 118) &&& (255 : Int32)).toNatClampNeg = (1 : Int32) by decide]; exact S_118 hb hsp hpc hpc0 hwb hop hp1
  · rw [show tb_base ((nI 119) &&& (255 : Int32)).toNatClampNeg = (2 : Int32) by decide]; exact S_119 hb hsp hpc hop hp1
  · rw [show tb_base ((nI 120) &&& (255 : Int32)).toNatClampNeg = (1 : Int32) by decide]; exact S_120 hb hsp hpc hop hp1
  · rw [show tb_base ((nI 121) &&& (255 : Int32)).toNatClampNeg = (1 : Int32) by decide]; exact S_121 hb hsp hpc hop hp1
  · rw [show tb_base ((nI 122) &&& (255 : Int32)).toNatClampNeg = (1 : Int32) by decide]; exact S_122 hb hsp hpc hop hp1
  · rw [show tb_base ((nI 123) &&& (255 : Int32)).toNatClampNeg = (1 : Int32) by decide]; exact S_123 hb hsp hpc hop hp1
  · rw [show tb_base ((nI 124) &&& (255 : Int32)).toNatClampNeg = (1 : Int32) by decide]; exact S_124 hb hsp hpc hop hp1
  · rw [show tb_base ((nI 125) &&& (255 : Int32)).toNatClampNeg = (1 : Int32) by decide]; exact S_125 hb hsp hpc hop hp1
  · rw [show tb_base ((nI 126) &&& (255 : Int32)).toNatClampNeg = (2 : Int32) by decide]; exact S_126 hb hsp hpc hop hp1
  · rw [show tb_base ((nI 127) &&& (255 : Int32)).toNatClampNeg = (1 : Int32) by decide]; exact S_127 hb hsp hpc hop hp1
theorem S_c8 {z n h c on wt bg : Bool} {sp pc pc1 cn : Int32} {bs mm : Nat → Int32} (hb : Byts bs) (hsp : Wrd sp) (hpc : Wrd pc1) (hpc0 : Wrd pc) (hwb : (wt && bg) = false) (hp1 : (kIf (kEq (bI bg) (0 : Int32)) (kU1 ((pc + (1 : Int32)) &&& (65535 : Int32)) (fun (x5 : Int32) => x5)) pc) = pc1) (j : Nat) (h1 : 128 ≤ j) (h2 : j < 144) (hn : fX4_isNone (nI j) = false) (hop : fX4_reads (0 : Int32) mm pc = (nI j, (0 : Int32) + (1 : Int32))) : SimX wt (nI j) (tb_base ((nI j) &&& (255 : Int32)).toNatClampNeg) (fX3_execute on wt false false mm cn (pw z n h c sp pc1 bs) (nI j)) (fX4_instruction z n h c sp pc on wt false bg cn (0 : Int32) false wt mm bs) := by
  rcases (show j = 128 ∨ j = 129 ∨ j = 130 ∨ j = 131 ∨ j = 132 ∨ j = 133 ∨ j = 134 ∨ j = 135 ∨ j = 136 ∨ j = 137 ∨ j = 138 ∨ j = 139 ∨ j = 140 ∨ j = 141 ∨ j = 142 ∨ j = 143 by omega) with rfl | rfl | rfl | rfl | rfl | rfl | rfl | rfl | rfl | rfl | rfl | rfl | rfl | rfl | rfl | rfl
  · rw [show tb_base ((nI 128) &&& (255 : Int32)).toNatClampNeg = (1 : Int32) by decide]; exact S_128 hb hsp hpc hop hp1
  · rw [show tb_base ((nI 129) &&& (255 : Int32)).toNatClampNeg = (1 : Int32) by decide]; exact S_129 hb hsp hpc hop hp1
  · rw [show tb_base ((nI 130) &&& (255 : Int32)).toNatClampNeg = (1 : Int32) by decide]; exact S_130 hb hsp hpc hop hp1
  · rw [show tb_base ((nI 131) &&& (255 : Int32)).toNatClampNeg = (1 : Int32) by decide]; exact S_131 hb hsp hpc hop hp1
  · rw [show tb_base ((nI 132) &&& (255 : Int32)).toNatClampNeg = (1 : Int32) by decide]; exact S_132 hb hsp hpc hop hp1
  · rw [show tb_base ((nI 133) &&& (255 : Int32)).toNatClampNeg = (1 : Int32) by decide]; exact S_133 hb hsp hpc hop hp1
  · rw [show tb_base ((nI 134) &&& (255 : Int32)).toNatClampNeg = (2 : Int32) by decide]; exact S_134 hb hsp hpc hop hp1
  · rw [show tb_base ((nI 135) &&& (255 : Int32)).toNatClampNeg = (1 : Int32) by decide]; exact S_135 hb hsp hpc hop hp1
  · rw [show tb_base ((nI 136) &&& (255 : Int32)).toNatClampNeg = (1 : Int32) by decide]; exact S_136 hb hsp hpc hop hp1
  · rw [show tb_base ((nI 137) &&& (255 : Int32)).toNatClampNeg = (1 : Int32) by decide]; exact S_137 hb hsp hpc hop hp1
  · rw [show tb_base ((nI 138) &&& (255 : Int32)).toNatClampNeg = (1 : Int32) by decide]; exact S_138 hb hsp hpc hop hp1
  · rw [show tb_base ((nI 139) &&& (255 : Int32)).toNatClampNeg = (1 : Int32) by decide]; exact S_139 hb hsp hpc hop hp1
  · rw [show tb_base ((nI 140) &&& (255 : Int32)).toNatClampNeg = (1 : Int32) by decide]; exact S_140 hb hsp hpc hop hp1
  · rw [show tb_base ((nI 141) &&& (255 : Int32)).toNatClampNeg = (1 : Int32) by decide]; exact S_141 hb hsp hpc hop hp1
  · rw [show tb_base ((nI 142) &&& (255 : Int32)).toNatClampNeg = (2 : Int32) by decide]; exact S_142 hb hsp hpc hop hp1
  · rw [show tb_base ((nI 143) &&& (255 : Int32)).toNatClampNeg = (1 : Int32) by decide]; exact S_143 hb hsp hpc hop hp1
theorem S_c9 {z n h c on wt bg : Bool} {sp pc pc1 cn : Int32} {bs mm : Nat → Int32} (hb : Byts bs) (hsp : Wrd sp) (hpc : Wrd pc1) (hpc0 : Wrd pc) (hwb : (wt && bg) = false) (hp1 : (kIf (kEq (bI bg) (0 : Int32)) (kU1 ((pc + (1 : Int32)) &&& (65535 : Int32)) (fun (x5 : Int32) => x5)) pc) = pc1) (j : Nat) (h1 : 144 ≤ j) (h2 : j < 160) (hn : fX4_isNone (nI j) = false) (hop : fX4_reads (0 : Int32) mm pc = (nI j, (0 : Int32) + (1 : Int32))) : SimX wt (nI j) (tb_base ((nI j) &&& (255 : Int32)).toNatClampNeg) (fX3_execute on wt false false mm cn (pw z n h c sp pc1 bs) (nI j)) (fX4_instruction z n h c sp pc on wt false bg cn (0 : Int32) false wt mm bs) := by
  rcases (show j = 144 ∨ j = 145 ∨ j = 146 ∨ j = 147 ∨ j = 148 ∨ j = 149 ∨ j = 150 ∨ j = 151 ∨ j = 152 ∨ j = 153 ∨ j = 154 ∨ j = 155 ∨ j = 156 ∨ j = 157 ∨ j = 158 ∨ j = 159 by omega) with rfl | rfl | rfl | rfl | rfl | rfl | rfl | rfl | rfl | rfl | rfl | rfl | rfl | rfl | rfl | rfl
  · rw [show tb_base ((nI 144) &&& (255 : Int32)).toNatClampNeg = (1 : Int32) by decide]; exact S_144 hb hsp hpc hop hp1
  · rw [show tb_base ((nI 145) &&& (255 : Int32)).toNatClampNeg = (1 : Int32) by decide]; exact S_145 hb hsp hpc hop hp1
  · rw [show tb_base ((nI 146) &&& (255 : Int32)).toNatClampNeg = (1 : Int32) by decide]; exact S_146 hb hsp hpc hop hp1
  · rw [show tb_base ((nI 147) &&& (255 : Int32)).toNatClampNeg = (1 : Int32) by decide]; exact S_147 hb hsp hpc hop hp1
  · rw [show tb_base ((nI 148) &&& (255 : Int32)).toNatClampNeg = (1 : Int32) by decide]; exact S_148 hb hsp hpc hop hp1
  · rw [show tb_base ((nI 149) &&& (255 : Int32)).toNatClampNeg = (1 : Int32) by decide]; exact S_149 hb hsp hpc hop hp1
  · rw [show tb_base ((nI 150) &&& (255 : Int32)).toNatClampNeg = (2 : Int32) by decide]; exact S_150 hb hsp hpc hop hp1
  · rw [show tb_base ((nI 151) &&& (255 : Int32)).toNatClampNeg = (1 : Int32) by decide]; exact S_151 hb hsp hpc hop hp1
  · rw [show tb_base ((nI 152) &&& (255 : Int32)).toNatClampNeg = (1 : Int32) by decide]; exact S_152 hb hsp hpc hop hp1
  · rw [show tb_base ((nI 153) &&& (255 : Int32)).toNatClampNeg = (1 : Int32) by decide]; exact S_153 hb hsp hpc hop hp1
  · rw [show tb_base ((nI 154) &&& (255 : Int32)).toNatClampNeg = (1 : Int32) by decide]; exact S_154 hb hsp hpc hop hp1
  · rw [show tb_base ((nI 155) &&& (255 : Int32)).toNatClampNeg = (1 : Int32) by decide]; exact S_155 hb hsp hpc hop hp1
  · rw [show tb_base ((nI 156) &&& (255 : Int32)).toNatClampNeg = (1 : Int32) by decide]; exact S_156 hb hsp hpc hop hp1
  · rw [show tb_base ((nI 157) &&& (255 : Int32)).toNatClampNeg = (1 : Int32) by decide]; exact S_157 hb hsp hpc hop hp1
  · rw [show tb_base ((nI 158) &&& (255 : Int32)).toNatClampNeg = (2 : Int32) by decide]; exact S_158 hb hsp hpc hop hp1
  · rw [show tb_base ((nI 159) &&& (255 : Int32)).toNatClampNeg = (1 : Int32) by decide]; exact S_159 hb hsp hpc hop hp1
theorem S_c10 {z n h c on wt bg : Bool} {sp pc pc1 cn : Int32} {bs mm : Nat → Int32} (hb : Byts bs) (hsp : Wrd sp) (hpc : Wrd pc1) (hpc0 : Wrd pc) (hwb : (wt && bg) = false) (hp1 : (kIf (kEq (bI bg) (0 : Int32)) (kU1 ((pc + (1 : Int32)) &&& (65535 : Int32)) (fun (x5 : Int32) => x5)) pc) = pc1) (j : Nat) (h1 : 160 ≤ j) (h2 : j < 176) (hn : fX4_isNone (nI j) = false) (hop : fX4_reads (0 : Int32) mm pc = (nI j, (0 : Int32) + (1 : Int32))) : SimX wt (nI j) (tb_base ((nI j) &&& (255 : Int32)).toNatClampNeg) (fX3_execute on wt false false mm cn (pw z n h c sp pc1 bs) (nI j)) (fX4_instruction z n h c sp pc on wt false bg cn (0 : Int32) false wt mm bs) := by
  rcases (show j = 160 ∨ j = 161 ∨ j = 162 ∨ j = 163 ∨ j = 164 ∨ j = 165 ∨ j = 166 ∨ j = 167 ∨ j = 168 ∨ j = 169 ∨ j = 170 ∨ j = 171 ∨ j = 172 ∨ j = 173 ∨ j = 174 ∨ j = 175 by omega) with rfl | rfl | rfl | rfl | rfl | rfl | rfl | rfl | rfl | rfl | rfl | rfl | rfl | rfl | rfl | rfl
  · rw [show tb_base ((nI 160) &&& (255 : Int32)).toNatClampNeg = (1 : Int32) by decide]; exact S_160 hb hsp hpc hop hp1
  · rw [show tb_base ((nI 161) &&& (255 : Int32)).toNatClampNeg = (1 : Int32) by decide]; exact S_161 hb hsp hpc hop hp1
  · rw [show tb_base ((nI 162) &&& (255 : Int32)).toNatClampNeg = (1 : Int32) by decide]; exact S_162 hb hsp hpc hop hp1
  · rw [show tb_base ((nI 163) &&& (255 : Int32)).toNatClampNeg = (1 : Int32) by decide]; exact S_163 hb hsp hpc hop hp1
  · rw [show tb_base ((nI 164) &&& (255 : Int32)).toNatClampNeg = (1 : Int32) by decide]; exact S_164 hb hsp hpc hop hp1
  · rw [show tb_base ((nI 165) &&& (255 : Int32)).toNatClampNeg = (1 : Int32) by decide]; exact S_165 hb hsp hpc hop hp1
  · rw [show tb_base ((nI 166) &&& (255 : Int32)).toNatClampNeg = (2 : Int32) by decide]; exact S_166 hb hsp hpc hop hp1
  · rw [show tb_base ((nI 167) &&& (255 : Int32)).toNatClampNeg = (1 : Int32) by decide]; exact S_167 hb hsp hpc hop hp1
  · rw [show tb_base ((nI 168) &&& (255 : Int32)).toNatClampNeg = (1 : Int32) by decide]; exact S_168 hb hsp hpc hop hp1
  · rw [show tb_base ((nI 169) &&& (255 : Int32)).toNatClampNeg = (1 : Int32) by decide]; exact S_169 hb hsp hpc hop hp1
  · rw [show tb_base ((nI 170) &&& (255 : Int32)).toNatClampNeg = (1 : Int32) by decide]; exact S_170 hb hsp hpc hop hp1
  · rw [show tb_base ((nI 171) &&& (255 : Int32)).toNatClampNeg = (1 : Int32) by decide]; exact S_171 hb hsp hpc hop hp1
  · rw [show tb_base ((nI 172) &&& (255 : Int32)).toNatClampNeg = (1 : Int32) by decide]; exact S_172 hb hsp hpc hop hp1
  · rw [show tb_base ((nI 173) &&& (255 : Int32)).toNatClampNeg = (1 : Int32) by decide]; exact S_173 hb hsp hpc hop hp1
  · rw [show tb_base ((nI 174) &&& (255 : Int32)).toNatClampNeg = (2 : Int32) by decide]; exact S_174 hb hsp hpc hop hp1
  · rw [show tb_base ((nI 175) &&& (255 : Int32)).toNatClampNeg = (1 : Int32) by decide]; exact S_175 hb hsp hpc hop hp1
theorem S_c11 {z n h c on wt bg : Bool} {sp pc pc1 cn : Int32} {bs mm : Nat → Int32} (hb : Byts bs) (hsp : Wrd sp) (hpc : Wrd pc1) (hpc0 : Wrd pc) (hwb : (wt && bg) = false) (hp1 : (kIf (kEq (bI bg) (0 : Int32)) (kU1 ((pc + (1 : Int32)) &&& (65535 : Int32)) (fun (x5 : Int32) => x5)) pc) = pc1) (j : Nat) (h1 : 176 ≤ j) (h2 : j < 192) (hn : fX4_isNone (nI j) = false) (hop : fX4_reads (0 : Int32) mm pc = (nI j, (0 : Int32) + (1 : Int32))) : SimX wt (nI j) (tb_base ((nI j) &&& (255 : Int32)).toNatClampNeg) (fX3_execute on wt false false mm cn (pw z n h c sp pc1 bs) (nI j)) (fX4_instruction z n h c sp pc on wt false bg cn (0 : Int32) false wt mm bs) := by
  rcases (show j = 176 ∨ j = 177 ∨ j = 178 ∨ j = 179 ∨ j = 180 ∨ j = 181 ∨ j = 182 ∨ j = 183 ∨ j = 184 ∨ j = 185 ∨ j = 186 ∨ j = 187 ∨ j = 188 ∨ j = 189 ∨ j = 190 ∨ j = 191 by omega) with rfl | rfl | rfl | rfl | rfl | rfl | rfl | rfl | rfl | rfl | rfl | rfl | rfl | rfl | rfl | rfl
  · rw [show tb_base ((nI 176) &&& (255 : Int32)).toNatClampNeg = (1 : Int32) by decide]; exact S_176 hb hsp hpc hop hp1
  · rw [show tb_base ((nI 177) &&& (255 : Int32)).toNatClampNeg = (1 : Int32) by decide]; exact S_177 hb hsp hpc hop hp1
  · rw [show tb_base ((nI 178) &&& (255 : Int32)).toNatClampNeg = (1 : Int32) by decide]; exact S_178 hb hsp hpc hop hp1
  · rw [show tb_base ((nI 179) &&& (255 : Int32)).toNatClampNeg = (1 : Int32) by decide]; exact S_179 hb hsp hpc hop hp1
  · rw [show tb_base ((nI 180) &&& (255 : Int32)).toNatClampNeg = (1 : Int32) by decide]; exact S_180 hb hsp hpc hop hp1
  · rw [show tb_base ((nI 181) &&& (255 : Int32)).toNatClampNeg = (1 : Int32) by decide]; exact S_181 hb hsp hpc hop hp1
  · rw [show tb_base ((nI 182) &&& (255 : Int32)).toNatClampNeg = (2 : Int32) by decide]; exact S_182 hb hsp hpc hop hp1
  · rw [show tb_base ((nI 183) &&& (255 : Int32)).toNatClampNeg = (1 : Int32) by decide]; exact S_183 hb hsp hpc hop hp1
  · rw [show tb_base ((nI 184) &&& (255 : Int32)).toNatClampNeg = (1 : Int32) by decide]; exact S_184 hb hsp hpc hop hp1
  · rw [show tb_base ((nI 185) &&& (255 : Int32)).toNatClampNeg = (1 : Int32) by decide]; exact S_185 hb hsp hpc hop hp1
  · rw [show tb_base ((nI 186) &&& (255 : Int32)).toNatClampNeg = (1 : Int32) by decide]; exact S_186 hb hsp hpc hop hp1
  · rw [show tb_base ((nI 187) &&& (255 : Int32)).toNatClampNeg = (1 : Int32) by decide]; exact S_187 hb hsp hpc hop hp1
  · rw [show tb_base ((nI 188) &&& (255 : Int32)).toNatClampNeg = (1 : Int32) by decide]; exact S_188 hb hsp hpc hop hp1
  · rw [show tb_base ((nI 189) &&& (255 : Int32)).toNatClampNeg = (1 : Int32) by decide]; exact S_189 hb hsp hpc hop hp1
  · rw [show tb_base ((nI 190) &&& (255 : Int32)).toNatClampNeg = (2 : Int32) by decide]; exact S_190 hb hsp hpc hop hp1
  · rw [show tb_base ((nI 191) &&& (255 : Int32)).toNatClampNeg = (1 : Int32) by decide]; exact S_191 hb hsp hpc hop hp1
theorem S_c12 {z n h c on wt bg : Bool} {sp pc pc1 cn : Int32} {bs mm : Nat → Int32} (hb : Byts bs) (hsp : Wrd sp) (hpc : Wrd pc1) (hpc0 : Wrd pc) (hwb : (wt && bg) = false) (hp1 : (kIf (kEq (bI bg) (0 : Int32)) (kU1 ((pc + (1 : Int32)) &&& (65535 : Int32)) (fun (x5 : Int32) => x5)) pc) = pc1) (j : Nat) (h1 : 192 ≤ j) (h2 : j < 208) (hn : fX4_isNone (nI j) = false) (hop : fX4_reads (0 : Int32) mm pc = (nI j, (0 : Int32) + (1 : Int32))) : SimX wt (nI j) (tb_base ((nI j) &&& (255 : Int32)).toNatClampNeg) (fX3_execute on wt false false mm cn (pw z n h c sp pc1 bs) (nI j)) (fX4_instruction z n h c sp pc on wt false bg cn (0 : Int32) false wt mm bs) := by
  rcases (show j = 192 ∨ j = 193 ∨ j = 194 ∨ j = 195 ∨ j = 196 ∨ j = 197 ∨ j = 198 ∨ j = 199 ∨ j = 200 ∨ j = 201 ∨ j = 202 ∨ j = 203 ∨ j = 204 ∨ j = 205 ∨ j = 206 ∨ j = 207 by omega) with rfl | rfl | rfl | rfl | rfl | rfl | rfl | rfl | rfl | rfl | rfl | rfl | rfl | rfl | rfl | rfl
  · rw [show tb_base ((nI 192) &&& (255 : Int32)).toNatClampNeg = (2 : Int32) by decide]; exact S_192 hb hsp hpc hop hp1
  · rw [show tb_base ((nI 193) &&& (255 : Int32)).toNatClampNeg = (3 : Int32) by decide]; exact S_193 hb hsp hpc hop hp1
  · rw [show tb_base ((nI 194) &&& (255 : Int32)).toNatClampNeg = (3 : Int32) by decide]; exact S_194 hb hsp hpc hop hp1
  · rw [show tb_base ((nI 195) &&& (255 : Int32)).toNatClampNeg = (3 : Int32) by decide]; exact S_195 hb hsp hpc hop hp1
  · rw [show tb_base ((nI 196) &&& (255 : Int32)).toNatClampNeg = (3 : Int32) by decide]; exact S_196 hb hsp hpc hop hp1
  · rw [show tb_base ((nI 197) &&& (255 : Int32)).toNatClampNeg = (4 : Int32) by decide]; exact S_197 hb hsp hpc hop hp1
  · rw [show tb_base ((nI 198) &&& (255 : Int32)).toNatClampNeg = (2 : Int32) by decide]; exact S_198 hb hsp hpc hop hp1
  · rw [show tb_base ((nI 199) &&& (255 : Int32)).toNatClampNeg = (4 : Int32) by decide]; exact S_199 hb hsp hpc hop hp1
  · rw [show tb_base ((nI 200) &&& (255 : Int32)).toNatClampNeg = (2 : Int32) by decide]; exact S_200 hb hsp hpc hop hp1
  · rw [show tb_base ((nI 201) &&& (255 : Int32)).toNatClampNeg = (4 : Int32) by decide]; exact S_201 hb hsp hpc hop hp1
  · rw [show tb_base ((nI 202) &&& (255 : Int32)).toNatClampNeg = (3 : Int32) by decide]; exact S_202 hb hsp hpc hop hp1
  · rw [show tb_base ((nI 203) &&& (255 : Int32)).toNatClampNeg = (2 : Int32) by decide]; exact S_203 hb hsp hpc hop hp1
  · rw [show tb_base ((nI 204) &&& (255 : Int32)).toNatClampNeg = (3 : Int32) by decide]; exact S_204 hb hsp hpc hop hp1
  · rw [show tb_base ((nI 205) &&& (255 : Int32)).toNatClampNeg = (3 : Int32) by decide]; exact S_205 hb hsp hpc hop hp1
  · rw [show tb_base ((nI 206) &&& (255 : Int32)).toNatClampNeg = (2 : Int32) by decide]; exact S_206 hb hsp hpc hop hp1
  · rw [show tb_base ((nI 207) &&& (255 : Int32)).toNatClampNeg = (4 : Int32) by decide]; exact S_207 hb hsp hpc hop hp1
theorem S_c13 {z n h c on wt bg : Bool} {sp pc pc1 cn : Int32} {bs mm : Nat → Int32} (hb : Byts bs) (hsp : Wrd sp) (hpc : Wrd pc1) (hpc0 : Wrd pc) (hwb : (wt && bg) = false) (hp1 : (kIf (kEq (bI bg) (0 : Int32)) (kU1 ((pc + (1 : Int32)) &&& (65535 : Int32)) (fun (x5 : Int32) => x5)) pc) = pc1) (j : Nat) (h1 : 208 ≤ j) (h2 : j < 224) (hn : fX4_isNone (nI j) = false) (hop : fX4_reads (0 : Int32) mm pc = (nI j, (0 : Int32) + (1 : Int32))) : SimX wt (nI j) (tb_base ((nI j) &&& (255 : Int32)).toNatClampNeg) (fX3_execute on wt false false mm cn (pw z n h c sp pc1 bs) (nI j)) (fX4_instruction z n h c sp pc on wt false bg cn (0 : Int32) false wt mm bs) := by
  rcases (show j = 208 ∨ j = 209 ∨ j = 210 ∨ j = 211 ∨ j = 212 ∨ j = 213 ∨ j = 214 ∨ j = 215 ∨ j = 216 ∨ j = 217 ∨ j = 218 ∨ j = 219 ∨ j = 220 ∨ j = 221 ∨ j = 222 ∨ j = 223 by omega) with rfl | rfl | rfl | rfl | rfl | rfl | rfl | rfl | rfl | rfl | rfl | rfl | rfl | rfl | rfl | rfl
  · rw [show tb_base ((nI 208) &&& (255 : Int32)).toNatClampNeg = (2 : Int32) by decide]; exact S_208 hb hsp hpc hop hp1
  · rw [show tb_base ((nI 209) &&& (255 : Int32)).toNatClampNeg = (3 : Int32) by decide]; exact S_209 hb hsp hpc hop hp1
  · rw [show tb_base ((nI 210) &&& (255 : Int32)).toNatClampNeg = (3 : Int32) by decide]; exact S_210 hb hsp hpc hop hp1
  · exact absurd hn (by decide)
  · rw [show tb_base ((nI 212) &&& (255 : Int32)).toNatClampNeg = (3 : Int32) by decide]; exact S_212 hb hsp hpc hop hp1
  · rw [show tb_base ((nI 213) &&& (255 : Int32)).toNatClampNeg = (4 : Int32) by decide]; exact S_213 hb hsp hpc hop hp1
  · rw [show tb_base ((nI 214) &&& (255 : Int32)).toNatClampNeg = (2 : Int32) by decide]; exact S_214 hb hsp hpc hop hp1
  · rw [show tb_base ((nI 215) &&& (255 : Int32)).toNatClampNeg = (4 : Int32) by decide]; exact S_215 hb hsp hpc hop hp1
  · rw [show tb_base ((nI 216) &&& (255 : Int32)).toNatClampNeg = (2 : Int32) by decide]; exact S_216 hb hsp hpc hop hp1
  · rw [show tb_base ((nI 217) &&& (255 : Int32)).toNatClampNeg = (4 : Int32) by decide]; exact S_217 hb hsp hpc hop hp1
  · rw [show tb_base ((nI 218) &&& (255 : Int32)).toNatClampNeg = (3 : Int32) by decide]; exact S_218 hb hsp hpc hop hp1
  · exact absurd hn (by decide)
  · rw [show tb_base ((nI 220) &&& (255 : Int32)).toNatClampNeg = (3 : Int32) by decide]; exact S_220 hb hsp hpc hop hp1
  · exact absurd hn (by decide)
  · rw [show tb_base ((nI 222) &&& (255 : Int32)).toNatClampNeg = (2 : Int32) by decide]; exact S_222 hb hsp hpc hop hp1
  · rw [show tb_base ((nI 223) &&& (255 : Int32)).toNatClampNeg = (4 : Int32) by decide]; exact S_223 hb hsp hpc hop hp1
theorem S_c14 {z n h c on wt bg : Bool} {sp pc pc1 cn : Int32} {bs mm : Nat → Int32} (hb : Byts bs) (hsp : Wrd sp) (hpc : Wrd pc1) (hpc0 : Wrd pc) (hwb : (wt && bg) = false) (hp1 : (kIf (kEq (bI bg) (0 : Int32)) (kU1 ((pc + (1 : Int32)) &&& (65535 : Int32)) (fun (x5 : Int32) => x5)) pc) = pc1) (j : Nat) (h1 : 224 ≤ j) (h2 : j < 240) (hn : fX4_isNone (nI j) = false) (hop : fX4_reads (0 : Int32) mm pc = (nI j, (0 : Int32) + (1 : Int32))) : SimX wt (nI j) (tb_base ((nI j) &&& (255 : Int32)).toNatClampNeg) (fX3_execute on wt false false mm cn (pw z n h c sp pc1 bs) (nI j)) (fX4_instruction z n h c sp pc on wt false bg cn (0 : Int32) false wt mm bs) := by
  rcases (show j = 224 ∨ j = 225 ∨ j = 226 ∨ j = 227 ∨ j = 228 ∨ j = 229 ∨ j = 230 ∨ j = 231 ∨ j = 232 ∨ j = 233 ∨ j = 234 ∨ j = 235 ∨ j = 236 ∨ j = 237 ∨ j = 238 ∨ j = 239 by omega) with rfl | rfl | rfl | rfl | rfl | rfl | rfl | rfl | rfl | rfl | rfl | rfl | rfl | rfl | rfl | rfl
  · rw [show tb_base ((nI 224) &&& (255 : Int32)).toNatClampNeg = (3 : Int32) by decide]; exact S_224 hb hsp hpc hop hp1
  · rw [show tb_base ((nI 225) &&& (255 : Int32)).toNatClampNeg = (3 : Int32) by decide]; exact S_225 hb hsp hpc hop hp1
  · rw [show tb_base ((nI 226) &&& (255 : Int32)).toNatClampNeg = (2 : Int32) by decide]; exact S_226 hb hsp hpc hop hp1
  · exact absurd hn (by decide)
  · exact absurd hn (by decide)
  · rw [show tb_base ((nI 229) &&& (255 : Int32)).toNatClampNeg = (4 : Int32) by decide]; exact S_229 hb hsp hpc hop hp1
  · rw [show tb_base ((nI 230) &&& (255 : Int32)).toNatClampNeg = (2 : Int32) by decide]; exact S_230 hb hsp hpc hop hp1
  · rw [show tb_base ((nI 231) &&& (255 : Int32)).toNatClampNeg = (4 : Int32) by decide]; exact S_231 hb hsp hpc hop hp1
  · rw [show tb_base ((nI 232) &&& (255 : Int32)).toNatClampNeg = (4 : Int32) by decide]; exact S_232 hb hsp hpc hop hp1
  · rw [show tb_base ((nI 233) &&& (255 : Int32)).toNatClampNeg = (1 : Int32) by decide]; exact S_233 hb hsp hpc hop hp1
  · rw [show tb_base ((nI 234) &&& (255 : Int32)).toNatClampNeg = (4 : Int32) by decide]; exact S_234 hb hsp hpc hop hp1
  · exact absurd hn (by decide)
  · exact absurd hn (by decide)
  · exact absurd hn (by decide)
  · rw [show tb_base ((nI 238) &&& (255 : Int32)).toNatClampNeg = (2 : Int32) by decide]; exact S_238 hb hsp hpc hop hp1
  · rw [show tb_base ((nI 239) &&& (255 : Int32)).toNatClampNeg = (4 : Int32) by decide]; exact S_239 hb hsp hpc hop hp1
theorem S_c15 {z n h c on wt bg : Bool} {sp pc pc1 cn : Int32} {bs mm : Nat → Int32} (hb : Byts bs) (hsp : Wrd sp) (hpc : Wrd pc1) (hpc0 : Wrd pc) (hwb : (wt && bg) = false) (hp1 : (kIf (kEq (bI bg) (0 : Int32)) (kU1 ((pc + (1 : Int32)) &&& (65535 : Int32)) (fun (x5 : Int32) => x5)) pc) = pc1) (j : Nat) (h1 : 240 ≤ j) (h2 : j < 256) (hn : fX4_isNone (nI j) = false) (hop : fX4_reads (0 : Int32) mm pc = (nI j, (0 : Int32) + (1 : Int32))) : SimX wt (nI j) (tb_base ((nI j) &&& (255 : Int32)).toNatClampNeg) (fX3_execute on wt false false mm cn (pw z n h c sp pc1 bs) (nI j)) (fX4_instruction z n h c sp pc on wt false bg cn (0 : Int32) false wt mm bs) := by
  rcases (show j = 240 ∨ j = 241 ∨ j = 242 ∨ j = 243 ∨ j = 244 ∨ j = 245 ∨ j = 246 ∨ j = 247 ∨ j = 248 ∨ j = 249 ∨ j = 250 ∨ j = 251 ∨ j = 252 ∨ j = 253 ∨ j = 254 ∨ j = 255 by omega) with rfl | rfl | rfl | rfl | rfl | rfl | rfl | rfl | rfl | rfl | rfl | rfl | rfl | rfl | rfl | rfl
  · rw [show tb_base ((nI 240) &&& (255 : Int32)).toNatClampNeg = (3 : Int32) by decide]; exact S_240 hb hsp hpc hop hp1
  · rw [show tb_base ((nI 241) &&& (255 : Int32)).toNatClampNeg = (3 : Int32) by decide]; exact S_241 hb hsp hpc hop hp1
  · rw [show tb_base ((nI 242) &&& (255 : Int32)).toNatClampNeg = (2 : Int32) by decide]; exact S_242 hb hsp hpc hop hp1
  · rw [show tb_base ((nI 243) &&& (255 : Int32)).toNatClampNeg = (1 : Int32) by decide]; exact S_243 hb hsp hpc hop hp1
  · exact absurd hn (by decide)
  · rw [show tb_base ((nI 245) &&& (255 : Int32)).toNatClampNeg = (4 : Int32) by decide]; exact S_245 hb hsp hpc hop hp1
  · rw [show tb_base ((nI 246) &&& (255 : Int32)).toNatClampNeg = (2 : Int32) by decide]; exact S_246 hb hsp hpc hop hp1
  · rw [show tb_base ((nI 247) &&& (255 : Int32)).toNatClampNeg = (4 : Int32) by decide]; exact S_247 hb hsp hpc hop hp1
  · rw [show tb_base ((nI 248) &&& (255 : Int32)).toNatClampNeg = (3 : Int32) by decide]; exact S_248 hb hsp hpc hop hp1
  · rw [show tb_base ((nI 249) &&& (255 : Int32)).toNatClampNeg = (2 : Int32) by decide]; exact S_249 hb hsp hpc hop hp1
  · rw [show tb_base ((nI 250) &&& (255 : Int32)).toNatClampNeg = (4 : Int32) by decide]; exact S_250 hb hsp hpc hop hp1
  · rw [show tb_base ((nI 251) &&& (255 : Int32)).toNatClampNeg = (1 : Int32) by decide]; exact S_251 hb hsp hpc hop hp1
  · exact absurd hn (by decide)
  · exact absurd hn (by decide)
  · rw [show tb_base ((nI 254) &&& (255 : Int32)).toNatClampNeg = (2 : Int32) by decide]; exact S_254 hb hsp hpc hop hp1
  · rw [show tb_base ((nI 255) &&& (255 : Int32)).toNatClampNeg = (4 : Int32) by decide]; exact S_255 hb hsp hpc hop hp1
theorem S_all {z n h c on wt bg : Bool} {sp pc pc1 cn : Int32} {bs mm : Nat → Int32} (hb : Byts bs) (hsp : Wrd sp) (hpc : Wrd pc1) (hpc0 : Wrd pc) (hwb : (wt && bg) = false) (hp1 : (kIf (kEq (bI bg) (0 : Int32)) (kU1 ((pc + (1 : Int32)) &&& (65535 : Int32)) (fun (x5 : Int32) => x5)) pc) = pc1) {op : Int32} (hB : Byt op) (hn : fX4_isNone op = false) (hop : fX4_reads (0 : Int32) mm pc = (op, (0 : Int32) + (1 : Int32))) : SimX wt op (tb_base (op &&& (255 : Int32)).toNatClampNeg) (fX3_execute on wt false false mm cn (pw z n h c sp pc1 bs) op) (fX4_instruction z n h c sp pc on wt false bg cn (0 : Int32) false wt mm bs) := by
  obtain ⟨j, hj, rfl⟩ := by_of hB
  by_cases a0 : j < 16
  · exact S_c0 hb hsp hpc hpc0 hwb hp1 j (by omega) a0 hn hop
  by_cases a1 : j < 32
  · exact S_c1 hb hsp hpc hpc0 hwb hp1 j (by omega) a1 hn hop
  by_cases a2 : j < 48
  · exact S_c2 hb hsp hpc hpc0 hwb hp1 j (by omega) a2 hn hop
  by_cases a3 : j < 64
  · exact S_c3 hb hsp hpc hpc0 hwb hp1 j (by omega) a3 hn hop
  by_cases a4 : j < 80
  · exact S_c4 hb hsp hpc hpc0 hwb hp1 j (by omega) a4 hn hop
  by_cases a5 : j < 96
  · exact S_c5 hb hsp hpc hpc0 hwb hp1 j (by omega) a5 hn hop
  by_cases a6 : j < 112
  · exact S_c6 hb hsp hpc hpc0 hwb hp1 j (by omega) a6 hn hop
  by_cases a7 : j < 128
  · exact S_c7 hb hsp hpc hpc0 hwb hp1 j (by omega) a7 hn hop
  by_cases a8 : j < 144
  · exact S_c8 hb hsp hpc hpc0 hwb hp1 j (by omega) a8 hn hop
  by_cases a9 : j < 160
  · exact S_c9 hb hsp hpc hpc0 hwb hp1 j (by omega) a9 hn hop
  by_cases a10 : j < 176
  · exact S_c10 hb hsp hpc hpc0 hwb hp1 j (by omega) a10 hn hop
  by_cases a11 : j < 192
  · exact S_c11 hb hsp hpc hpc0 hwb hp1 j (by omega) a11 hn hop
  by_cases a12 : j < 208
  · exact S_c12 hb hsp hpc hpc0 hwb hp1 j (by omega) a12 hn hop
  by_cases a13 : j < 224
  · exact S_c13 hb hsp hpc hpc0 hwb hp1 j (by omega) a13 hn hop
  by_cases a14 : j < 240
  · exact S_c14 hb hsp hpc hpc0 hwb hp1 j (by omega) a14 hn hop
  by_cases a15 : j < 256
  · exact S_c15 hb hsp hpc hpc0 hwb hp1 j (by omega) a15 hn hop
  · omega
theorem tb_none0 : ∀ j : Fin 256, kEq (tb_base ((nI j.val) &&& (255 : Int32)).toNatClampNeg) (0 : Int32) = fX4_isNone (nI j.val) := by decide +kernel
theorem tb_none {op : Int32} (hB : Byt op) : kEq (tb_base (op &&& (255 : Int32)).toNatClampNeg) (0 : Int32) = fX4_isNone op := by
  obtain ⟨j, hj, rfl⟩ := by_of hB; exact tb_none0 ⟨j, hj⟩
section S5
variable {z n h c on ht : Bool} {sp pc cn cl : Int32} {bs mm : Nat → Int32}
theorem clr_e (x : Int32) : fX0_clearInterrupt mm x = fX0_store mm (65295 : Int32) (fX0_at mm (65295 : Int32) &&& (((1 : Int32) <<< (x &&& (31 : Int32))) ^^^ (-1 : Int32))) := Eq.trans (kU1_e _ _) (kU1_e _ _)
theorem d3_in {x a : Int32} {w : Nat → Int32} (h1 : ¬ (4 : Int32) ≤ x) (h2 : ((a >>> (x &&& (31 : Int32))) &&& (1 : Int32)) = (0 : Int32)) : fX3_dispatch_L mm cn w a x = Sum.inl (x + (1 : Int32)) := Eq.trans (kU1_e _ _) (Eq.trans (kf_le h1) (Eq.trans (kt_eq h2) (kU1_e _ _)))
theorem d3_o1 {x a : Int32} {w : Nat → Int32} (h1 : (4 : Int32) ≤ x) : fX3_dispatch_L mm cn w a x = Sum.inr (false, false, (fX3_push (fX0_clearInterrupt mm x) cn w (fX1_word w (5 : Int32))).1, (fX3_push (fX0_clearInterrupt mm x) cn w (fX1_word w (5 : Int32))).2.1, (fX1_setWord (fX3_push (fX0_clearInterrupt mm x) cn w (fX1_word w (5 : Int32))).2.2 (5 : Int32) ((64 : Int32) + ((8 : Int32) * x))).2) := Eq.trans (kU1_e _ _) (Eq.trans (kt_le h1) (Eq.trans (kU1_e _ _) (Eq.trans (kU1_e _ _) (Eq.trans (kU3_e _ _) (kU2_e _ _)))))
theorem d3_o2 {x a : Int32} {w : Nat → Int32} (h1 : ¬ (4 : Int32) ≤ x) (h2 : ¬ ((a >>> (x &&& (31 : Int32))) &&& (1 : Int32)) = (0 : Int32)) : fX3_dispatch_L mm cn w a x = Sum.inr (false, false, (fX3_push (fX0_clearInterrupt mm x) cn w (fX1_word w (5 : Int32))).1, (fX3_push (fX0_clearInterrupt mm x) cn w (fX1_word w (5 : Int32))).2.1, (fX1_setWord (fX3_push (fX0_clearInterrupt mm x) cn w (fX1_word w (5 : Int32))).2.2 (5 : Int32) ((64 : Int32) + ((8 : Int32) * x))).2) := Eq.trans (kU1_e _ _) (Eq.trans (kf_le h1) (Eq.trans (kf_eq h2) (Eq.trans (kU1_e _ _) (Eq.trans (kU1_e _ _) (Eq.trans (kU3_e _ _) (kU2_e _ _))))))
theorem d4_in {x a : Int32} (h2 : ((a >>> (x &&& (31 : Int32))) &&& (1 : Int32)) = (0 : Int32)) : fX4_dispatch_L sp pc cn mm a x = Sum.inl (x + (1 : Int32)) := Eq.trans (kU1_e _ _) (Eq.trans (kt_eq h2) (kU1_e _ _))
theorem d4_o {x a : Int32} (h2 : ¬ ((a >>> (x &&& (31 : Int32))) &&& (1 : Int32)) = (0 : Int32)) : fX4_dispatch_L sp pc cn mm a x = Sum.inr ((fX4_push sp cn (3 : Int32) (fX4_puts mm (65295 : Int32) (fX4_at mm (65295 : Int32) &&& (((1 : Int32) <<< (x &&& (31 : Int32))) ^^^ (-1 : Int32)))) pc).1, (64 : Int32) + ((8 : Int32) * x), false, false, (fX4_push sp cn (3 : Int32) (fX4_puts mm (65295 : Int32) (fX4_at mm (65295 : Int32) &&& (((1 : Int32) <<< (x &&& (31 : Int32))) ^^^ (-1 : Int32)))) pc).2.1, (fX4_push sp cn (3 : Int32) (fX4_puts mm (65295 : Int32) (fX4_at mm (65295 : Int32) &&& (((1 : Int32) <<< (x &&& (31 : Int32))) ^^^ (-1 : Int32)))) pc).2.2.1, (fX4_push sp cn (3 : Int32) (fX4_puts mm (65295 : Int32) (fX4_at mm (65295 : Int32) &&& (((1 : Int32) <<< (x &&& (31 : Int32))) ^^^ (-1 : Int32)))) pc).2.2.2) := Eq.trans (kU1_e _ _) (Eq.trans (kf_eq h2) (Eq.trans (kU1_e _ _) (Eq.trans (kU1_e _ _) (Eq.trans (kU4_e _ _) (kU1_e _ _)))))
/-- behind a dispatch of bit x -/
def DspOk (on ht z n h c : Bool) (sp pc cn cl : Int32) (mm bs : Nat → Int32) (a : Int32) : Prop := ∃ (x : Int32), fX3_dispatch on ht mm cn (pw z n h c sp pc bs) a = (false, false, (pm (fX0_clearInterrupt mm x) cn sp pc).1, (pm (fX0_clearInterrupt mm x) cn sp pc).2, pw z n h c ((sp - 2) &&& (65535 : Int32)) ((64 : Int32) + ((8 : Int32) * x)) bs) ∧ fX4_dispatch sp pc on ht cn cl mm a = ((sp - 2) &&& (65535 : Int32), (64 : Int32) + ((8 : Int32) * x), false, false, (pm (fX0_clearInterrupt mm x) cn sp pc).2, (5 : Int32), (pm (fX0_clearInterrupt mm x) cn sp pc).1) ∧ Wrd ((64 : Int32) + ((8 : Int32) * x))
theorem dsp_fin {a x : Int32} (hW : ((64 : Int32) + ((8 : Int32) * x)) &&& (65535 : Int32) = (64 : Int32) + ((8 : Int32) * x)) (e3 : fX3_dispatch on ht mm cn (pw z n h c sp pc bs) a = (false, false, (fX3_push (fX0_clearInterrupt mm x) cn (pw z n h c sp pc bs) (fX1_word (pw z n h c sp pc bs) (5 : Int32))).1, (fX3_push (fX0_clearInterrupt mm x) cn (pw z n h c sp pc bs) (fX1_word (pw z n h c sp pc bs) (5 : Int32))).2.1, (fX1_setWord (fX3_push (fX0_clearInterrupt mm x) cn (pw z n h c sp pc bs) (fX1_word (pw z n h c sp pc bs) (5 : Int32))).2.2 (5 : Int32) ((64 : Int32) + ((8 : Int32) * x))).2))
    (e4 : fX4_dispatch sp pc on ht cn cl mm a = ((fX4_push sp cn (3 : Int32) (fX4_puts mm (65295 : Int32) (fX4_at mm (65295 : Int32) &&& (((1 : Int32) <<< (x &&& (31 : Int32))) ^^^ (-1 : Int32)))) pc).1, (64 : Int32) + ((8 : Int32) * x), false, false, (fX4_push sp cn (3 : Int32) (fX4_puts mm (65295 : Int32) (fX4_at mm (65295 : Int32) &&& (((1 : Int32) <<< (x &&& (31 : Int32))) ^^^ (-1 : Int32)))) pc).2.1, (fX4_push sp cn (3 : Int32) (fX4_puts mm (65295 : Int32) (fX4_at mm (65295 : Int32) &&& (((1 : Int32) <<< (x &&& (31 : Int32))) ^^^ (-1 : Int32)))) pc).2.2.1, (fX4_push sp cn (3 : Int32) (fX4_puts mm (65295 : Int32) (fX4_at mm (65295 : Int32) &&& (((1 : Int32) <<< (x &&& (31 : Int32))) ^^^ (-1 : Int32)))) pc).2.2.2)) : DspOk on ht z n h c sp pc cn cl mm bs a := by
  refine ⟨x, ?_, ?_, hW⟩
  · rw [e3, r_w5]; simp only [cc_push, r_s5, hW]
  · rw [e4]; simp only [q_at, q_puts, ← clr_e, q_push]; rfl
theorem D_1 : DspOk on ht z n h c sp pc cn cl mm bs (1 : Int32) := dsp_fin (x := (0 : Int32)) (by decide) (kI_inr (d3_o2 (by decide) (by decide))) (kI_inr (d4_o (by decide)))
theorem D_2 : DspOk on ht z n h c sp pc cn cl mm bs (2 : Int32) := dsp_fin (x := (0 : Int32) + (1 : Int32)) (by decide) (Eq.trans (kI_inl (d3_in (by decide) (by decide))) (kI_inr (d3_o2 (by decide) (by decide)))) (Eq.trans (kI_inl (d4_in (by decide))) (kI_inr (d4_o (by decide))))
theorem D_3 : DspOk on ht z n h c sp pc cn cl mm bs (3 : Int32) := dsp_fin (x := (0 : Int32)) (by decide) (kI_inr (d3_o2 (by decide) (by decide))) (kI_inr (d4_o (by decide)))
theorem D_4 : DspOk on ht z n h c sp pc cn cl mm bs (4 : Int32) := dsp_fin (x := (0 : Int32) + (1 : Int32) + (1 : Int32)) (by decide) (Eq.trans (kI_inl (d3_in (by decide) (by decide))) (Eq.trans (kI_inl (d3_in (by decide) (by decide))) (kI_inr (d3_o2 (by decide) (by decide))))) (Eq.trans (kI_inl (d4_in (by decide))) (Eq.trans (kI_inl (d4_in (by decide))) (kI_inr (d4_o (by decide)))))
theorem D_5 : DspOk on ht z n h c sp pc cn cl mm bs (5 : Int32) := dsp_fin (x := (0 : Int32)) (by decide) (kI_inr (d3_o2 (by decide) (by decide))) (kI_inr (d4_o (by decide)))
theorem D_6 : DspOk on ht z n h c sp pc cn cl mm bs (6 : Int32) := dsp_fin (x := (0 : Int32) + (1 : Int32)) (by decide) (Eq.trans (kI_inl (d3_in (by decide) (by decide))) (kI_inr (d3_o2 (by decide) (by decide)))) (Eq.trans (kI_inl (d4_in (by decide))) (kI_inr (d4_o (by decide))))
theorem D_7 : DspOk on ht z n h c sp pc cn cl mm bs (7 : Int32) := dsp_fin (x := (0 : Int32)) (by decide) (kI_inr (d3_o2 (by decide) (by decide))) (kI_inr (d4_o (by decide)))
theorem D_8 : DspOk on ht z n h c sp pc cn cl mm bs (8 : Int32) := dsp_fin (x := (0 : Int32) + (1 : Int32) + (1 : Int32) + (1 : Int32)) (by decide) (Eq.trans (kI_inl (d3_in (by decide) (by decide))) (Eq.trans (kI_inl (d3_in (by decide) (by decide))) (Eq.trans (kI_inl (d3_in (by decide) (by decide))) (kI_inr (d3_o2 (by decide) (by decide)))))) (Eq.trans (kI_inl (d4_in (by decide))) (Eq.trans (kI_inl (d4_in (by decide))) (Eq.trans (kI_inl (d4_in (by decide))) (kI_inr (d4_o (by decide))))))
theorem D_9 : DspOk on ht z n h c sp pc cn cl mm bs (9 : Int32) := dsp_fin (x := (0 : Int32)) (by decide) (kI_inr (d3_o2 (by decide) (by decide))) (kI_inr (d4_o (by decide)))
theorem D_10 : DspOk on ht z n h c sp pc cn cl mm bs (10 : Int32) := dsp_fin (x := (0 : Int32) + (1 : Int32)) (by decide) (Eq.trans (kI_inl (d3_in (by decide) (by decide))) (kI_inr (d3_o2 (by decide) (by decide)))) (Eq.trans (kI_inl (d4_in (by decide))) (kI_inr (d4_o (by decide))))
theorem D_11 : DspOk on ht z n h c sp pc cn cl mm bs (11 : Int32) := dsp_fin (x := (0 : Int32)) (by decide) (kI_inr (d3_o2 (by decide) (by decide))) (kI_inr (d4_o (by decide)))
theorem D_12 : DspOk on ht z n h c sp pc cn cl mm bs (12 : Int32) := dsp_fin (x := (0 : Int32) + (1 : Int32) + (1 : Int32)) (by decide) (Eq.trans (kI_inl (d3_in (by decide) (by decide))) (Eq.trans (kI_inl (d3_in (by decide) (by decide))) (kI_inr (d3_o2 (by decide) (by decide))))) (Eq.trans (kI_inl (d4_in (by decide))) (Eq.trans (kI_inl (d4_in (by decide))) (kI_inr (d4_o (by decide)))))
theorem D_13 : DspOk on ht z n h c sp pc cn cl mm bs (13 : Int32) := dsp_fin (x := (0 : Int32)) (by decide) (kI_inr (d3_o2 (by decide) (by decide))) (kI_inr (d4_o (by decide)))
theorem D_14 : DspOk on ht z n h c sp pc cn cl mm bs (14 : Int32) := dsp_fin (x := (0 : Int32) + (1 : Int32)) (by decide) (Eq.trans (kI_inl (d3_in (by decide) (by decide))) (kI_inr (d3_o2 (by decide) (by decide)))) (Eq.trans (kI_inl (d4_in (by decide))) (kI_inr (d4_o (by decide))))
theorem D_15 : DspOk on ht z n h c sp pc cn cl mm bs (15 : Int32) := dsp_fin (x := (0 : Int32)) (by decide) (kI_inr (d3_o2 (by decide) (by decide))) (kI_inr (d4_o (by decide)))
theorem D_16 : DspOk on ht z n h c sp pc cn cl mm bs (16 : Int32) := dsp_fin (x := (0 : Int32) + (1 : Int32) + (1 : Int32) + (1 : Int32) + (1 : Int32)) (by decide) (Eq.trans (kI_inl (d3_in (by decide) (by decide))) (Eq.trans (kI_inl (d3_in (by decide) (by decide))) (Eq.trans (kI_inl (d3_in (by decide) (by decide))) (Eq.trans (kI_inl (d3_in (by decide) (by decide))) (kI_inr (d3_o1 (by decide))))))) (Eq.trans (kI_inl (d4_in (by decide))) (Eq.trans (kI_inl (d4_in (by decide))) (Eq.trans (kI_inl (d4_in (by decide))) (Eq.trans (kI_inl (d4_in (by decide))) (kI_inr (d4_o (by decide)))))))
theorem D_17 : DspOk on ht z n h c sp pc cn cl mm bs (17 : Int32) := dsp_fin (x := (0 : Int32)) (by decide) (kI_inr (d3_o2 (by decide) (by decide))) (kI_inr (d4_o (by decide)))
theorem D_18 : DspOk on ht z n h c sp pc cn cl mm bs (18 : Int32) := dsp_fin (x := (0 : Int32) + (1 : Int32)) (by decide) (Eq.trans (kI_inl (d3_in (by decide) (by decide))) (kI_inr (d3_o2 (by decide) (by decide)))) (Eq.trans (kI_inl (d4_in (by decide))) (kI_inr (d4_o (by decide))))
theorem D_19 : DspOk on ht z n h c sp pc cn cl mm bs (19 : Int32) := dsp_fin (x := (0 : Int32)) (by decide) (kI_inr (d3_o2 (by decide) (by decide))) (kI_inr (d4_o (by decide)))
theorem D_20 : DspOk on ht z n h c sp pc cn cl mm bs (20 : Int32) := dsp_fin (x := (0 : Int32) + (1 : Int32) + (1 : Int32)) (by decide) (Eq.trans (kI_inl (d3_in (by decide) (by decide))) (Eq.trans (kI_inl (d3_in (by decide) (by decide))) (kI_inr (d3_o2 (by decide) (by decide))))) (Eq.trans (kI_inl (d4_in (by decide))) (Eq.trans (kI_inl (d4_in (by decide))) (kI_inr (d4_o (by decide)))))
theorem D_21 : DspOk on ht z n h c sp pc cn cl mm bs (21 : Int32) := dsp_fin (x := (0 : Int32)) (by decide) (kI_inr (d3_o2 (by decide) (by decide))) (kI_inr (d4_o (by decide)))
theorem D_22 : DspOk on ht z n h c sp pc cn cl mm bs (22 : Int32) := dsp_fin (x := (0 : Int32) + (1 : Int32)) (by decide) (Eq.trans (kI_inl (d3_in (by decide) (by decide))) (kI_inr (d3_o2 (by decide) (by decide)))) (Eq.trans (kI_inl (d4_in (by decide))) (kI_inr (d4_o (by decide))))
theorem D_23 : DspOk on ht z n h c sp pc cn cl mm bs (23 : Int32) := dsp_fin (x := (0 : Int32)) (by decide) (kI_inr (d3_o2 (by decide) (by decide))) (kI_inr (d4_o (by decide)))
theorem D_24 : DspOk on ht z n h c sp pc cn cl mm bs (24 : Int32) := dsp_fin (x := (0 : Int32) + (1 : Int32) + (1 : Int32) + (1 : Int32)) (by decide) (Eq.trans (kI_inl (d3_in (by decide) (by decide))) (Eq.trans (kI_inl (d3_in (by decide) (by decide))) (Eq.trans (kI_inl (d3_in (by decide) (by decide))) (kI_inr (d3_o2 (by decide) (by decide)))))) (Eq.trans (kI_inl (d4_in (by decide))) (Eq.trans (kI_inl (d4_in (by decide))) (Eq.trans (kI_inl (d4_in (by decide))) (kI_inr (d4_o (by decide))))))
theorem D_25 : DspOk on ht z n h c sp pc cn cl mm bs (25 : Int32) := dsp_fin (x := (0 : Int32)) (by decide) (kI_inr (d3_o2 (by decide) (by decide))) (kI_inr (d4_o (by decide)))
theorem D_26 : DspOk on ht z n h c sp pc cn cl mm bs (26 : Int32) := dsp_fin (x := (0 : Int32) + (1 : Int32)) (by decide) (Eq.trans (kI_inl (d3_in (by decide) (by decide))) (kI_inr (d3_o2 (by decide) (by decide)))) (Eq.trans (kI_inl (d4_in (by decide))) (kI_inr (d4_o (by decide))))
theorem D_27 : DspOk on ht z n h c sp pc cn cl mm bs (27 : Int32) := dsp_fin (x := (0 : Int32)) (by decide) (kI_inr (d3_o2 (by decide) (by decide))) (kI_inr (d4_o (by decide)))
theorem D_28 : DspOk on ht z n h c sp pc cn cl mm bs (28 : Int32) := dsp_fin (x := (0 : Int32) + (1 : Int32) + (1 : Int32)) (by decide) (Eq.trans (kI_inl (d3_in (by decide) (by decide))) (Eq.trans (kI_inl (d3_in (by decide) (by decide))) (kI_inr (d3_o2 (by decide) (by decide))))) (Eq.trans (kI_inl (d4_in (by decide))) (Eq.trans (kI_inl (d4_in (by decide))) (kI_inr (d4_o (by decide)))))
theorem D_29 : DspOk on ht z n h c sp pc cn cl mm bs (29 : Int32) := dsp_fin (x := (0 : Int32)) (by decide) (kI_inr (d3_o2 (by decide) (by decide))) (kI_inr (d4_o (by decide)))
theorem D_30 : DspOk on ht z n h c sp pc cn cl mm bs (30 : Int32) := dsp_fin (x := (0 : Int32) + (1 : Int32)) (by decide) (Eq.trans (kI_inl (d3_in (by decide) (by decide))) (kI_inr (d3_o2 (by decide) (by decide)))) (Eq.trans (kI_inl (d4_in (by decide))) (kI_inr (d4_o (by decide))))
theorem D_31 : DspOk on ht z n h c sp pc cn cl mm bs (31 : Int32) := dsp_fin (x := (0 : Int32)) (by decide) (kI_inr (d3_o2 (by decide) (by decide))) (kI_inr (d4_o (by decide)))
theorem D_all {a : Int32} (hq : ∃ q : Nat, a = nI q ∧ 0 < q ∧ q < 32) : DspOk on ht z n h c sp pc cn cl mm bs a := by
  obtain ⟨q, rfl, h1, h2⟩ := hq
  rcases (show q = 1 ∨ q = 2 ∨ q = 3 ∨ q = 4 ∨ q = 5 ∨ q = 6 ∨ q = 7 ∨ q = 8 ∨ q = 9 ∨ q = 10 ∨ q = 11 ∨ q = 12 ∨ q = 13 ∨ q = 14 ∨ q = 15 ∨ q = 16 ∨ q = 17 ∨ q = 18 ∨ q = 19 ∨ q = 20 ∨ q = 21 ∨ q = 22 ∨ q = 23 ∨ q = 24 ∨ q = 25 ∨ q = 26 ∨ q = 27 ∨ q = 28 ∨ q = 29 ∨ q = 30 ∨ q = 31 by omega) with rfl | rfl | rfl | rfl | rfl | rfl | rfl | rfl | rfl | rfl | rfl | rfl | rfl | rfl | rfl | rfl | rfl | rfl | rfl | rfl | rfl | rfl | rfl | rfl | rfl | rfl | rfl | rfl | rfl | rfl | rfl
  · exact D_1
  · exact D_2
  · exact D_3
  · exact D_4
  · exact D_5
  · exact D_6
  · exact D_7
  · exact D_8
  · exact D_9
  · exact D_10
  · exact D_11
  · exact D_12
  · exact D_13
  · exact D_14
  · exact D_15
  · exact D_16
  · exact D_17
  · exact D_18
  · exact D_19
  · exact D_20
  · exact D_21
  · exact D_22
  · exact D_23
  · exact D_24
  · exact D_25
  · exact D_26
  · exact D_27
  · exact D_28
  · exact D_29
  · exact D_30
  · exact D_31
theorem m256_0 : ∀ j : Fin 256, nI j.val - nI j.val / (256 : Int32) * (256 : Int32) = nI j.val &&& (255 : Int32) := by decide +kernel
theorem m4b_0 : ∀ j : Fin 256, nI j.val - nI j.val / (4 : Int32) * (4 : Int32) = nI j.val &&& (3 : Int32) := by decide +kernel
theorem m256 {v : Int32} (h : Byt v) : v - v / (256 : Int32) * (256 : Int32) = v &&& (255 : Int32) := by
  obtain ⟨j, hj, rfl⟩ := by_of h; exact m256_0 ⟨j, hj⟩
/-- one M-cycle of the timer -/
theorem s_tick {i al : Int32} (hi : ¬ cl ≤ i) : fX4_time_L al cl (i, cn, mm) = Sum.inl (i + 1, (fX0_tick mm cn).2, (fX0_tick mm cn).1) := by
  have hx : Byt ((cn + (1 : Int32)) &&& (255 : Int32)) := Byt.mk _
  refine Eq.trans (kU3_e _ _) (Eq.trans (kf_le hi) ?_)
  simp only [fX0_tick, kU1_e, m64 hx, q_at, q_puts]
  generalize hb7 : kIf (kEq (((cn + (1 : Int32)) &&& (255 : Int32)) &&& (63 : Int32)) (0 : Int32)) (fX0_store mm (65284 : Int32) (fX0_at mm (65284 : Int32) + (1 : Int32))) mm = b7
  have hr : Byt (fX0_at b7 (65287 : Int32)) := at_B _
  rw [m4 hr]
  simp only [fX0_countTimer, fX0_raiseInterrupts, kU1_e]
  obtain ⟨j, hj, e⟩ := pk_andE (fX0_at b7 (65287 : Int32)) (m := 3) 2 (by decide)
  rw [e]
  generalize kEq (fX0_at b7 (65287 : Int32) &&& (4 : Int32)) (0 : Int32) = q4
  rcases (show j = 0 ∨ j = 1 ∨ j = 2 ∨ j = 3 by omega) with rfl | rfl | rfl | rfl
  · rw [show kEq (nI 0) (0 : Int32) = true by decide, kIf_t, m256 hx, show tb_mask (nI 0).toNatClampNeg = 255 by decide]
    cases q4 <;> cases kEq (((cn + (1 : Int32)) &&& (255 : Int32)) &&& (255 : Int32)) (0 : Int32) <;> rfl
  · rw [show kEq (nI 1) (0 : Int32) = false by decide, kIf_f, show kEq (nI 1) (1 : Int32) = true by decide, kIf_t, m4 hx, show tb_mask (nI 1).toNatClampNeg = 3 by decide]
    cases q4 <;> cases kEq (((cn + (1 : Int32)) &&& (255 : Int32)) &&& (3 : Int32)) (0 : Int32) <;> rfl
  · rw [show kEq (nI 2) (0 : Int32) = false by decide, kIf_f, show kEq (nI 2) (1 : Int32) = false by decide, kIf_f, show kEq (nI 2) (2 : Int32) = true by decide, kIf_t, m16 hx, show tb_mask (nI 2).toNatClampNeg = 15 by decide]
    cases q4 <;> cases kEq (((cn + (1 : Int32)) &&& (255 : Int32)) &&& (15 : Int32)) (0 : Int32) <;> rfl
  · rw [show kEq (nI 3) (0 : Int32) = false by decide, kIf_f, show kEq (nI 3) (1 : Int32) = false by decide, kIf_f, show kEq (nI 3) (2 : Int32) = false by decide, kIf_f, m64 hx, show tb_mask (nI 3).toNatClampNeg = 63 by decide]
    cases q4 <;> cases kEq (((cn + (1 : Int32)) &&& (255 : Int32)) &&& (63 : Int32)) (0 : Int32) <;> rfl
end S5
theorem s_loop {a al x1 : Int32} {d3 : Int32 × (Nat → Int32) × Int32} {d4 : Int32 × Int32 × (Nat → Int32)} : ∀ (n : Nat) (i : Int32) (mm : Nat → Int32) (cn : Int32), kT a.toNatClampNeg i n → ∃ (m2 : Nat → Int32) (c2 : Int32), kIt (fX3_pass_L a x1) d3 n (i, mm, cn) = (x1, m2, c2) ∧ kIt (fX4_time_L al a) d4 n (i, cn, mm) = (c2, (al + a) &&& (1073741823 : Int32), m2) := by
  intro n
  induction n with
  | zero => intro i mm cn h; exact absurd h kT_0
  | succ n ih =>
    intro i mm cn h
    by_cases q : a ≤ i
    · exact ⟨mm, cn, kI_inr (Eq.trans (kU3_e _ _) (kt_le q)), kI_inr (Eq.trans (kU3_e _ _) (Eq.trans (kt_le q) (kU1_e _ _)))⟩
    · obtain ⟨m2, c2, e1, e2⟩ := ih (i + 1) (fX0_tick mm cn).1 (fX0_tick mm cn).2 (kT_stepV rfl q h)
      exact ⟨m2, c2, Eq.trans (kI_inl (Eq.trans (kU3_e _ _) (Eq.trans (kf_le q) (Eq.trans (kU2_e _ _) (kU1_e _ _))))) e1, Eq.trans (kI_inl (s_tick q)) e2⟩
/-- the timer behind a step -/
theorem s_pass {a al cn : Int32} {mm : Nat → Int32} : ∃ (m2 : Nat → Int32) (c2 : Int32), fX3_pass al mm cn a = ((al + a) &&& (1073741823 : Int32), m2, c2) ∧ fX4_time cn al a mm = (c2, (al + a) &&& (1073741823 : Int32), m2) := by
  obtain ⟨m2, c2, e1, e2⟩ := s_loop (a := a) (al := al) (x1 := (al + a) &&& (1073741823 : Int32)) (d3 := ((al + a) &&& (1073741823 : Int32), mm, cn)) (d4 := (cn, al, mm)) (a.toNatClampNeg + 1) 0 mm cn (kT_init _)
  exact ⟨m2, c2, Eq.trans (kU1_e _ _) e1, e2⟩
