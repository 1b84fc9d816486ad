/-! ===== the reference: claims, years to come ===== -/
def ownA (q : Nat → Nat) (f : Nat) : Prop := (ownS q f).1 = none
section YS
variable {G : zG} {c0_ c1_ c2_ c3_ c4_ c5_ c6_ c7_ c8_ c9_ c10_ c11_ c12_ c13_ c14_ c15_ c16_ c17_ c18_ c19_ c20_ : va_E} {w kp tx : Nat → Nat} {txl : Nat} {rf : Nat → Nat} {ya yb : Int64} {at2 st2 : Nat} {iwd ifg : Int32} {nb : Nat → Nat} {fr : Int32} {la nms : Nat → Nat} {nd : Nat} {wf : Nat → Nat} {hh : Int64} {tl : List va_E}
set_option maxRecDepth 20000 in
set_option maxHeartbeats 4000000 in
theorem m_linesOf {b : Nat} {r we : Nat → Nat} {f : Nat} (h : RW w b r we) (hr : rowOK r) (hb : b ≤ 3420) (hf : f < 3) : zS G 4 yX4_linesOf cX4_linesOf 6 (some .int) [.ref (zad (zb G) 21), .int (nI b), .int (nI f)] (yM G c0_ c1_ c2_ c3_ c4_ c5_ c6_ c7_ c8_ c9_ c10_ c11_ c12_ c13_ c14_ c15_ c16_ c17_ c18_ c19_ c20_ w kp tx txl rf ya yb at2 st2 iwd ifg nb fr la nms nd wf hh tl) 0 0 (zE (.int (nI (v2 r f 8))) (yM G c0_ c1_ c2_ c3_ c4_ c5_ c6_ c7_ c8_ c9_ c10_ c11_ c12_ c13_ c14_ c15_ c16_ c17_ c18_ c19_ c20_ w kp tx txl rf ya yb at2 st2 iwd ifg nb fr la nms nd wf hh tl)) := by
  refine zS.of (by decide) (Nat.le_of_ble_eq_true rfl) (fun F O hR1 hR2 => ?_)
  have O : zOk G F yX4_linesOf cX4_linesOf 6 (some .int) RX4 4 (yM G c0_ c1_ c2_ c3_ c4_ c5_ c6_ c7_ c8_ c9_ c10_ c11_ c12_ c13_ c14_ c15_ c16_ c17_ c18_ c19_ c20_ w kp tx txl rf ya yb at2 st2 iwd ifg nb fr la nms nd wf hh tl).length := O
  refine z_eq (lv' := [(0, _), (1, _), (2, _)]) rfl rfl rfl ?_
  refine z_iconst O (nI 0) dX4_linesOf_0 (by decide) ?_
  refine z_istore_n (lv' := [(0, _), (1, _), (2, _), (3, _)]) O dX4_linesOf_1 (by decide) rfl ?_
  refine z_iconst O (nI 0) dX4_linesOf_2 (by decide) ?_
  refine z_istore (lv' := [(0, _), (1, _), (2, _), (3, _), (4, _)]) O dX4_linesOf_3 (by decide) rfl ?_
  refine zdown (P := fun c => Z G F 0 0 (zEnd G F (zE (.int (nI (v2 r f 8))) (yM G c0_ c1_ c2_ c3_ c4_ c5_ c6_ c7_ c8_ c9_ c10_ c11_ c12_ c13_ c14_ c15_ c16_ c17_ c18_ c19_ c20_ w kp tx txl rf ya yb at2 st2 iwd ifg nb fr la nms nd wf hh tl)) 0 0) 5 [(0, .ref (zad (zb G) 21)), (1, .int (nI b)), (2, .int (nI f)), (3, .int (nI (bitsN (owB r f) c))), (4, .int (nI c))] [] (yM G c0_ c1_ c2_ c3_ c4_ c5_ c6_ c7_ c8_ c9_ c10_ c11_ c12_ c13_ c14_ c15_ c16_ c17_ c18_ c19_ c20_ w kp tx txl rf ya yb at2 st2 iwd ifg nb fr la nms nd wf hh tl)) (9) ?_ ?_ 
  · have hom := bitsN_lt (owB r f) 9
    refine z_iload O dX4_linesOf_5 rfl ?_
    refine z_bipush O (nI 9) dX4_linesOf_7 (by decide) ?_
    refine z_icmp_geN O 40 dX4_linesOf_9 (by decide) (by omega) (by omega) (fun h9 => ?_) (fun h9 => by omega)
    refine z_iconst O (nI 0) dX4_linesOf_40 (by decide) ?_
    refine z_istore (lv' := [(0, _), (1, _), (2, _), (3, _), (4, _)]) O dX4_linesOf_41 (by decide) rfl ?_
    refine z_iconst O (nI 0) dX4_linesOf_43 (by decide) ?_
    refine z_istore (lv' := [(0, _), (1, _), (2, _), (3, _), (4, _), (5, _)]) O dX4_linesOf_44 (by decide) rfl ?_
    refine zdown (P := fun k => Z G F 0 0 (zEnd G F (zE (.int (nI (v2 r f 8))) (yM G c0_ c1_ c2_ c3_ c4_ c5_ c6_ c7_ c8_ c9_ c10_ c11_ c12_ c13_ c14_ c15_ c16_ c17_ c18_ c19_ c20_ w kp tx txl rf ya yb at2 st2 iwd ifg nb fr la nms nd wf hh tl)) 0 0) 46 [(0, .ref (zad (zb G) 21)), (1, .int (nI b)), (2, .int (nI f)), (3, .int (nI (bitsN (owB r f) 9))), (4, .int (nI (lnK (bitsN (owB r f) 9) k))), (5, .int (nI k))] [] (yM G c0_ c1_ c2_ c3_ c4_ c5_ c6_ c7_ c8_ c9_ c10_ c11_ c12_ c13_ c14_ c15_ c16_ c17_ c18_ c19_ c20_ w kp tx txl rf ya yb at2 st2 iwd ifg nb fr la nms nd wf hh tl)) (3) ?_ ?_ 
    · refine z_iload O dX4_linesOf_46 rfl ?_
      refine z_iconst O (nI 3) dX4_linesOf_48 (by decide) ?_
      refine z_icmp_geN O 104 dX4_linesOf_49 (by decide) (by omega) (by omega) (fun h49 => ?_) (fun h49 => by omega)
      refine z_iload O dX4_linesOf_104 rfl ?_
      refine z_iload_n O dX4_linesOf_106 rfl ?_
      refine z_sipush O (nI 273) dX4_linesOf_107 (by decide) ?_
      refine z_iand O dX4_linesOf_110 ?_
      refine z_top (v' := .int (nI ((bitsN (owB r f) 9) &&& 273))) (congrArg Value.int (nI_and (by omega) (by decide))) ?_
      refine z_sipush O (nI 273) dX4_linesOf_111 (by decide) ?_
      refine z_icmp_neN O 121 dX4_linesOf_114 (by decide) (by first | (have : (bitsN (owB r f) 9) &&& 273 ≤ 273 := Nat.and_le_right; omega) | omega) (by first | (have : (bitsN (owB r f) 9) &&& 273 ≤ 273 := Nat.and_le_right; omega) | omega) (fun h114 => ?_) (fun h114 => ?_)
      · refine z_iconst O (nI 0) dX4_linesOf_121 (by decide) ?_
        refine z_iaddN O dX4_linesOf_122 ?_
        refine z_iload_n O dX4_linesOf_123 rfl ?_
        refine z_bipush O (nI 84) dX4_linesOf_124 (by decide) ?_
        refine z_iand O dX4_linesOf_126 ?_
        refine z_top (v' := .int (nI ((bitsN (owB r f) 9) &&& 84))) (congrArg Value.int (nI_and (by omega) (by decide))) ?_
        refine z_bipush O (nI 84) dX4_linesOf_127 (by decide) ?_
        refine z_icmp_neN O 136 dX4_linesOf_129 (by decide) (by first | (have : (bitsN (owB r f) 9) &&& 84 ≤ 84 := Nat.and_le_right; omega) | omega) (by first | (have : (bitsN (owB r f) 9) &&& 84 ≤ 84 := Nat.and_le_right; omega) | omega) (fun h129 => ?_) (fun h129 => ?_)
        · refine z_iconst O (nI 0) dX4_linesOf_136 (by decide) ?_
          refine z_iaddN O dX4_linesOf_137 ?_
          exact z_iret O dX4_linesOf_138 (by rw [← lnB_v2 r f 8 (by omega), ← ln_ok _ hom, lnA]; first | (refine ⟨?_, rfl⟩; rw [if_pos h114, if_pos h129]) | (refine ⟨?_, rfl⟩; rw [if_pos h114, if_neg h129]) | (refine ⟨?_, rfl⟩; rw [if_neg h114, if_pos h129]) | (refine ⟨?_, rfl⟩; rw [if_neg h114, if_neg h129]))
        · refine z_iconst O (nI 1) dX4_linesOf_132 (by decide) ?_
          refine z_goto O 137 dX4_linesOf_133 (by decide) ?_
          refine z_iaddN O dX4_linesOf_137 ?_
          exact z_iret O dX4_linesOf_138 (by rw [← lnB_v2 r f 8 (by omega), ← ln_ok _ hom, lnA]; first | (refine ⟨?_, rfl⟩; rw [if_pos h114, if_pos h129]) | (refine ⟨?_, rfl⟩; rw [if_pos h114, if_neg h129]) | (refine ⟨?_, rfl⟩; rw [if_neg h114, if_pos h129]) | (refine ⟨?_, rfl⟩; rw [if_neg h114, if_neg h129]))
      · refine z_iconst O (nI 1) dX4_linesOf_117 (by decide) ?_
        refine z_goto O 122 dX4_linesOf_118 (by decide) ?_
        refine z_iaddN O dX4_linesOf_122 ?_
        refine z_iload_n O dX4_linesOf_123 rfl ?_
        refine z_bipush O (nI 84) dX4_linesOf_124 (by decide) ?_
        refine z_iand O dX4_linesOf_126 ?_
        refine z_top (v' := .int (nI ((bitsN (owB r f) 9) &&& 84))) (congrArg Value.int (nI_and (by omega) (by decide))) ?_
        refine z_bipush O (nI 84) dX4_linesOf_127 (by decide) ?_
        refine z_icmp_neN O 136 dX4_linesOf_129 (by decide) (by first | (have : (bitsN (owB r f) 9) &&& 84 ≤ 84 := Nat.and_le_right; omega) | omega) (by first | (have : (bitsN (owB r f) 9) &&& 84 ≤ 84 := Nat.and_le_right; omega) | omega) (fun h129 => ?_) (fun h129 => ?_)
        · refine z_iconst O (nI 0) dX4_linesOf_136 (by decide) ?_
          refine z_iaddN O dX4_linesOf_137 ?_
          exact z_iret O dX4_linesOf_138 (by rw [← lnB_v2 r f 8 (by omega), ← ln_ok _ hom, lnA]; first | (refine ⟨?_, rfl⟩; rw [if_pos h114, if_pos h129]) | (refine ⟨?_, rfl⟩; rw [if_pos h114, if_neg h129]) | (refine ⟨?_, rfl⟩; rw [if_neg h114, if_pos h129]) | (refine ⟨?_, rfl⟩; rw [if_neg h114, if_neg h129]))
        · refine z_iconst O (nI 1) dX4_linesOf_132 (by decide) ?_
          refine z_goto O 137 dX4_linesOf_133 (by decide) ?_
          refine z_iaddN O dX4_linesOf_137 ?_
          exact z_iret O dX4_linesOf_138 (by rw [← lnB_v2 r f 8 (by omega), ← ln_ok _ hom, lnA]; first | (refine ⟨?_, rfl⟩; rw [if_pos h114, if_pos h129]) | (refine ⟨?_, rfl⟩; rw [if_pos h114, if_neg h129]) | (refine ⟨?_, rfl⟩; rw [if_neg h114, if_pos h129]) | (refine ⟨?_, rfl⟩; rw [if_neg h114, if_neg h129]))
    · intro k hk ih 
      refine z_iload O dX4_linesOf_46 rfl ?_
      refine z_iconst O (nI 3) dX4_linesOf_48 (by decide) ?_
      refine z_icmp_geN O 104 dX4_linesOf_49 (by decide) (by omega) (by omega) (fun h49 => by omega) (fun h49 => ?_)
      by_cases g1 : (bitsN (owB r f) 9) / 2 ^ (3 * k) &&& 7 = 7
      · refine z_iload O dX4_linesOf_52 rfl ?_
        refine z_iload_n O dX4_linesOf_54 rfl ?_
        refine z_iconst O (nI 3) dX4_linesOf_55 (by decide) ?_
        refine z_iload O dX4_linesOf_56 rfl ?_
        refine z_imulN O dX4_linesOf_58 ?_
        refine z_ishr O dX4_linesOf_59 ?_
        refine z_top (v' := .int (nI ((bitsN (owB r f) 9) / 2 ^ (3 * k)))) (congrArg Value.int (zb_shr (by omega) (by omega))) ?_
        refine z_bipush O (nI 7) dX4_linesOf_60 (by decide) ?_
        refine z_iand O dX4_linesOf_62 ?_
        refine z_top (v' := .int (nI ((bitsN (owB r f) 9) / 2 ^ (3 * k) &&& 7))) (congrArg Value.int (nI_and (by have := Nat.div_le_self (bitsN (owB r f) 9) (2 ^ (3 * k)); omega) (by decide))) ?_
        refine z_bipush O (nI 7) dX4_linesOf_63 (by decide) ?_
        refine z_icmp_neN O 72 dX4_linesOf_65 (by decide) (by first | (have : (bitsN (owB r f) 9) / 2 ^ (3 * k) &&& 7 ≤ 7 := Nat.and_le_right; omega) | omega) (by first | (have : (bitsN (owB r f) 9) / 2 ^ (3 * k) &&& 7 ≤ 7 := Nat.and_le_right; omega) | omega) (fun h65 => by omega) (fun h65 => ?_)
        refine z_iconst O (nI 1) dX4_linesOf_68 (by decide) ?_
        refine z_goto O 73 dX4_linesOf_69 (by decide) ?_
        refine z_iaddN O dX4_linesOf_73 ?_
        refine z_istore (lv' := [(0, _), (1, _), (2, _), (3, _), (4, _), (5, _)]) O dX4_linesOf_74 (by decide) rfl ?_
        by_cases g2 : (bitsN (owB r f) 9) / 2 ^ k &&& 73 = 73
        · refine z_iload O dX4_linesOf_76 rfl ?_
          refine z_iload_n O dX4_linesOf_78 rfl ?_
          refine z_iload O dX4_linesOf_79 rfl ?_
          refine z_ishr O dX4_linesOf_81 ?_
          refine z_top (v' := .int (nI ((bitsN (owB r f) 9) / 2 ^ k))) (congrArg Value.int (zb_shr (by omega) (by omega))) ?_
          refine z_bipush O (nI 73) dX4_linesOf_82 (by decide) ?_
          refine z_iand O dX4_linesOf_84 ?_
          refine z_top (v' := .int (nI ((bitsN (owB r f) 9) / 2 ^ k &&& 73))) (congrArg Value.int (nI_and (by have := Nat.div_le_self (bitsN (owB r f) 9) (2 ^ k); omega) (by decide))) ?_
          refine z_bipush O (nI 73) dX4_linesOf_85 (by decide) ?_
          refine z_icmp_neN O 94 dX4_linesOf_87 (by decide) (by first | (have : (bitsN (owB r f) 9) / 2 ^ k &&& 73 ≤ 73 := Nat.and_le_right; omega) | omega) (by first | (have : (bitsN (owB r f) 9) / 2 ^ k &&& 73 ≤ 73 := Nat.and_le_right; omega) | omega) (fun h87 => by omega) (fun h87 => ?_)
          refine z_iconst O (nI 1) dX4_linesOf_90 (by decide) ?_
          refine z_goto O 95 dX4_linesOf_91 (by decide) ?_
          refine z_iaddN O dX4_linesOf_95 ?_
          refine z_istore (lv' := [(0, _), (1, _), (2, _), (3, _), (4, _), (5, _)]) O dX4_linesOf_96 (by decide) rfl ?_
          refine z_iincN (lv' := [(0, _), (1, _), (2, _), (3, _), (4, _), (5, _)]) O 1 dX4_linesOf_98 (by decide) rfl rfl (by decide) ?_
          refine z_goto O 46 dX4_linesOf_101 (by decide) ?_
          rw [show lnK (bitsN (owB r f) 9) (k + 1) = lnK (bitsN (owB r f) 9) k + ln1 (bitsN (owB r f) 9) k + ln2 (bitsN (owB r f) 9) k from rfl, ln1, ln2] at ih
          first | (rw [if_pos g1, if_pos g2] at ih; exact ih) | (rw [if_pos g1, if_neg g2] at ih; exact ih) | (rw [if_neg g1, if_pos g2] at ih; exact ih) | (rw [if_neg g1, if_neg g2] at ih; exact ih)
        · refine z_iload O dX4_linesOf_76 rfl ?_
          refine z_iload_n O dX4_linesOf_78 rfl ?_
          refine z_iload O dX4_linesOf_79 rfl ?_
          refine z_ishr O dX4_linesOf_81 ?_
          refine z_top (v' := .int (nI ((bitsN (owB r f) 9) / 2 ^ k))) (congrArg Value.int (zb_shr (by omega) (by omega))) ?_
          refine z_bipush O (nI 73) dX4_linesOf_82 (by decide) ?_
          refine z_iand O dX4_linesOf_84 ?_
          refine z_top (v' := .int (nI ((bitsN (owB r f) 9) / 2 ^ k &&& 73))) (congrArg Value.int (nI_and (by have := Nat.div_le_self (bitsN (owB r f) 9) (2 ^ k); omega) (by decide))) ?_
          refine z_bipush O (nI 73) dX4_linesOf_85 (by decide) ?_
          refine z_icmp_neN O 94 dX4_linesOf_87 (by decide) (by first | (have : (bitsN (owB r f) 9) / 2 ^ k &&& 73 ≤ 73 := Nat.and_le_right; omega) | omega) (by first | (have : (bitsN (owB r f) 9) / 2 ^ k &&& 73 ≤ 73 := Nat.and_le_right; omega) | omega) (fun h87 => ?_) (fun h87 => by omega)
          refine z_iconst O (nI 0) dX4_linesOf_94 (by decide) ?_
          refine z_iaddN O dX4_linesOf_95 ?_
          refine z_istore (lv' := [(0, _), (1, _), (2, _), (3, _), (4, _), (5, _)]) O dX4_linesOf_96 (by decide) rfl ?_
          refine z_iincN (lv' := [(0, _), (1, _), (2, _), (3, _), (4, _), (5, _)]) O 1 dX4_linesOf_98 (by decide) rfl rfl (by decide) ?_
          refine z_goto O 46 dX4_linesOf_101 (by decide) ?_
          rw [show lnK (bitsN (owB r f) 9) (k + 1) = lnK (bitsN (owB r f) 9) k + ln1 (bitsN (owB r f) 9) k + ln2 (bitsN (owB r f) 9) k from rfl, ln1, ln2] at ih
          first | (rw [if_pos g1, if_pos g2] at ih; exact ih) | (rw [if_pos g1, if_neg g2] at ih; exact ih) | (rw [if_neg g1, if_pos g2] at ih; exact ih) | (rw [if_neg g1, if_neg g2] at ih; exact ih)
      · refine z_iload O dX4_linesOf_52 rfl ?_
        refine z_iload_n O dX4_linesOf_54 rfl ?_
        refine z_iconst O (nI 3) dX4_linesOf_55 (by decide) ?_
        refine z_iload O dX4_linesOf_56 rfl ?_
        refine z_imulN O dX4_linesOf_58 ?_
        refine z_ishr O dX4_linesOf_59 ?_
        refine z_top (v' := .int (nI ((bitsN (owB r f) 9) / 2 ^ (3 * k)))) (congrArg Value.int (zb_shr (by omega) (by omega))) ?_
        refine z_bipush O (nI 7) dX4_linesOf_60 (by decide) ?_
        refine z_iand O dX4_linesOf_62 ?_
        refine z_top (v' := .int (nI ((bitsN (owB r f) 9) / 2 ^ (3 * k) &&& 7))) (congrArg Value.int (nI_and (by have := Nat.div_le_self (bitsN (owB r f) 9) (2 ^ (3 * k)); omega) (by decide))) ?_
        refine z_bipush O (nI 7) dX4_linesOf_63 (by decide) ?_
        refine z_icmp_neN O 72 dX4_linesOf_65 (by decide) (by first | (have : (bitsN (owB r f) 9) / 2 ^ (3 * k) &&& 7 ≤ 7 := Nat.and_le_right; omega) | omega) (by first | (have : (bitsN (owB r f) 9) / 2 ^ (3 * k) &&& 7 ≤ 7 := Nat.and_le_right; omega) | omega) (fun h65 => ?_) (fun h65 => by omega)
        refine z_iconst O (nI 0) dX4_linesOf_72 (by decide) ?_
        refine z_iaddN O dX4_linesOf_73 ?_
        refine z_istore (lv' := [(0, _), (1, _), (2, _), (3, _), (4, _), (5, _)]) O dX4_linesOf_74 (by decide) rfl ?_
        by_cases g2 : (bitsN (owB r f) 9) / 2 ^ k &&& 73 = 73
        · refine z_iload O dX4_linesOf_76 rfl ?_
          refine z_iload_n O dX4_linesOf_78 rfl ?_
          refine z_iload O dX4_linesOf_79 rfl ?_
          refine z_ishr O dX4_linesOf_81 ?_
          refine z_top (v' := .int (nI ((bitsN (owB r f) 9) / 2 ^ k))) (congrArg Value.int (zb_shr (by omega) (by omega))) ?_
          refine z_bipush O (nI 73) dX4_linesOf_82 (by decide) ?_
          refine z_iand O dX4_linesOf_84 ?_
          refine z_top (v' := .int (nI ((bitsN (owB r f) 9) / 2 ^ k &&& 73))) (congrArg Value.int (nI_and (by have := Nat.div_le_self (bitsN (owB r f) 9) (2 ^ k); omega) (by decide))) ?_
          refine z_bipush O (nI 73) dX4_linesOf_85 (by decide) ?_
          refine z_icmp_neN O 94 dX4_linesOf_87 (by decide) (by first | (have : (bitsN (owB r f) 9) / 2 ^ k &&& 73 ≤ 73 := Nat.and_le_right; omega) | omega) (by first | (have : (bitsN (owB r f) 9) / 2 ^ k &&& 73 ≤ 73 := Nat.and_le_right; omega) | omega) (fun h87 => by omega) (fun h87 => ?_)
          refine z_iconst O (nI 1) dX4_linesOf_90 (by decide) ?_
          refine z_goto O 95 dX4_linesOf_91 (by decide) ?_
          refine z_iaddN O dX4_linesOf_95 ?_
          refine z_istore (lv' := [(0, _), (1, _), (2, _), (3, _), (4, _), (5, _)]) O dX4_linesOf_96 (by decide) rfl ?_
          refine z_iincN (lv' := [(0, _), (1, _), (2, _), (3, _), (4, _), (5, _)]) O 1 dX4_linesOf_98 (by decide) rfl rfl (by decide) ?_
          refine z_goto O 46 dX4_linesOf_101 (by decide) ?_
          rw [show lnK (bitsN (owB r f) 9) (k + 1) = lnK (bitsN (owB r f) 9) k + ln1 (bitsN (owB r f) 9) k + ln2 (bitsN (owB r f) 9) k from rfl, ln1, ln2] at ih
          first | (rw [if_pos g1, if_pos g2] at ih; exact ih) | (rw [if_pos g1, if_neg g2] at ih; exact ih) | (rw [if_neg g1, if_pos g2] at ih; exact ih) | (rw [if_neg g1, if_neg g2] at ih; exact ih)
        · refine z_iload O dX4_linesOf_76 rfl ?_
          refine z_iload_n O dX4_linesOf_78 rfl ?_
          refine z_iload O dX4_linesOf_79 rfl ?_
          refine z_ishr O dX4_linesOf_81 ?_
          refine z_top (v' := .int (nI ((bitsN (owB r f) 9) / 2 ^ k))) (congrArg Value.int (zb_shr (by omega) (by omega))) ?_
          refine z_bipush O (nI 73) dX4_linesOf_82 (by decide) ?_
          refine z_iand O dX4_linesOf_84 ?_
          refine z_top (v' := .int (nI ((bitsN (owB r f) 9) / 2 ^ k &&& 73))) (congrArg Value.int (nI_and (by have := Nat.div_le_self (bitsN (owB r f) 9) (2 ^ k); omega) (by decide))) ?_
          refine z_bipush O (nI 73) dX4_linesOf_85 (by decide) ?_
          refine z_icmp_neN O 94 dX4_linesOf_87 (by decide) (by first | (have : (bitsN (owB r f) 9) / 2 ^ k &&& 73 ≤ 73 := Nat.and_le_right; omega) | omega) (by first | (have : (bitsN (owB r f) 9) / 2 ^ k &&& 73 ≤ 73 := Nat.and_le_right; omega) | omega) (fun h87 => ?_) (fun h87 => by omega)
          refine z_iconst O (nI 0) dX4_linesOf_94 (by decide) ?_
          refine z_iaddN O dX4_linesOf_95 ?_
          refine z_istore (lv' := [(0, _), (1, _), (2, _), (3, _), (4, _), (5, _)]) O dX4_linesOf_96 (by decide) rfl ?_
          refine z_iincN (lv' := [(0, _), (1, _), (2, _), (3, _), (4, _), (5, _)]) O 1 dX4_linesOf_98 (by decide) rfl rfl (by decide) ?_
          refine z_goto O 46 dX4_linesOf_101 (by decide) ?_
          rw [show lnK (bitsN (owB r f) 9) (k + 1) = lnK (bitsN (owB r f) 9) k + ln1 (bitsN (owB r f) 9) k + ln2 (bitsN (owB r f) 9) k from rfl, ln1, ln2] at ih
          first | (rw [if_pos g1, if_pos g2] at ih; exact ih) | (rw [if_pos g1, if_neg g2] at ih; exact ih) | (rw [if_neg g1, if_pos g2] at ih; exact ih) | (rw [if_neg g1, if_neg g2] at ih; exact ih)
  · intro c hc ih 
    refine z_iload O dX4_linesOf_5 rfl ?_
    refine z_bipush O (nI 9) dX4_linesOf_7 (by decide) ?_
    refine z_icmp_geN O 40 dX4_linesOf_9 (by decide) (by omega) (by omega) (fun h9 => by omega) (fun h9 => ?_)
    by_cases hof : tfo r c = some f
    · refine z_iload_n O dX4_linesOf_12 rfl ?_
      refine z_aload_n O dX4_linesOf_13 rfl ?_
      refine z_iload_n O dX4_linesOf_14 rfl ?_
      refine z_iload O dX4_linesOf_15 rfl ?_
      refine z_V2e0 O (m_familyAt h hr hb hc) mX4_familyAt lkX4_167 rfl (by rfl) dX4_linesOf_17 (Nat.le_of_ble_eq_true rfl) (by decide) ?_
      refine z_iload_n O dX4_linesOf_20 rfl ?_
      refine z_icmp_ne O 31 dX4_linesOf_21 (by decide) (fun h21 => by exact absurd (congrArg optI hof) h21) (fun h21 => ?_)
      refine z_iconst O (nI 1) dX4_linesOf_24 (by decide) ?_
      refine z_iload O dX4_linesOf_25 rfl ?_
      refine z_ishl O dX4_linesOf_27 ?_
      refine z_goto O 32 dX4_linesOf_28 (by decide) ?_
      refine z_ior O dX4_linesOf_32 ?_
      refine z_top (v' := .int (nI (bitsN (owB r f) c + 2 ^ c))) (congrArg Value.int (zb_or (bitsN_lt _ _) (by omega))) ?_
      refine z_istore_n (lv' := [(0, _), (1, _), (2, _), (3, _), (4, _)]) O dX4_linesOf_33 (by decide) rfl ?_
      refine z_iincN (lv' := [(0, _), (1, _), (2, _), (3, _), (4, _)]) O 1 dX4_linesOf_34 (by decide) rfl rfl (by decide) ?_
      refine z_goto O 5 dX4_linesOf_37 (by decide) ?_
      rw [show bitsN (owB r f) (c + 1) = bitsN (owB r f) c + 2 ^ c from if_pos (decide_eq_true hof)] at ih
      exact ih
    · refine z_iload_n O dX4_linesOf_12 rfl ?_
      refine z_aload_n O dX4_linesOf_13 rfl ?_
      refine z_iload_n O dX4_linesOf_14 rfl ?_
      refine z_iload O dX4_linesOf_15 rfl ?_
      refine z_V2e0 O (m_familyAt h hr hb hc) mX4_familyAt lkX4_167 rfl (by rfl) dX4_linesOf_17 (Nat.le_of_ble_eq_true rfl) (by decide) ?_
      refine z_iload_n O dX4_linesOf_20 rfl ?_
      refine z_icmp_ne O 31 dX4_linesOf_21 (by decide) (fun h21 => ?_) (fun h21 => by exact absurd ((optI_eq (tfo_bd hr) (b := some f) (by intro g hg; cases hg; omega)).mp h21) hof)
      refine z_iconst O (nI 0) dX4_linesOf_31 (by decide) ?_
      refine z_ior O dX4_linesOf_32 ?_
      refine z_top (v' := .int (nI (bitsN (owB r f) c))) (congrArg Value.int (zb_or0 _)) ?_
      refine z_istore_n (lv' := [(0, _), (1, _), (2, _), (3, _), (4, _)]) O dX4_linesOf_33 (by decide) rfl ?_
      refine z_iincN (lv' := [(0, _), (1, _), (2, _), (3, _), (4, _)]) O 1 dX4_linesOf_34 (by decide) rfl rfl (by decide) ?_
      refine z_goto O 5 dX4_linesOf_37 (by decide) ?_
      rw [show bitsN (owB r f) (c + 1) = bitsN (owB r f) c from if_neg (fun q => hof (of_decide_eq_true q))] at ih
      exact ih
set_option maxRecDepth 20000 in
set_option maxHeartbeats 4000000 in
theorem m_claimsIn2 {b : Nat} {r we : Nat → Nat} {f : Nat} (h : RW w b r we) (hr : rowOK r) (hb : b ≤ 3420) (hf : f < 3) : zS G 5 yX4_claimsIn cX4_claimsIn 10 (some .int) [.ref (zad (zb G) 21), .int (nI b), .int (nI f), .int (nI 2)] (yM G c0_ c1_ c2_ c3_ c4_ c5_ c6_ c7_ c8_ c9_ c10_ c11_ c12_ c13_ c14_ c15_ c16_ c17_ c18_ c19_ c20_ w kp tx txl rf ya yb at2 st2 iwd ifg nb fr la nms nd wf hh tl) 0 0 (zE (.int (nI (clm r 2 f))) (yM G c0_ c1_ c2_ c3_ c4_ c5_ c6_ c7_ c8_ c9_ c10_ c11_ c12_ c13_ c14_ c15_ c16_ c17_ c18_ c19_ c20_ w kp tx txl rf ya yb at2 st2 iwd ifg nb fr la nms nd wf hh tl)) := by
  refine zS.of (by decide) (Nat.le_of_ble_eq_true rfl) (fun F O hR1 hR2 => ?_)
  have O : zOk G F yX4_claimsIn cX4_claimsIn 10 (some .int) RX4 5 (yM G c0_ c1_ c2_ c3_ c4_ c5_ c6_ c7_ c8_ c9_ c10_ c11_ c12_ c13_ c14_ c15_ c16_ c17_ c18_ c19_ c20_ w kp tx txl rf ya yb at2 st2 iwd ifg nb fr la nms nd wf hh tl).length := O
  refine z_eq (lv' := [(0, _), (1, _), (2, _), (3, _)]) rfl rfl rfl ?_
  refine z_iload_n O dX4_claimsIn_0 rfl ?_
  refine z_iconst O (nI 2) dX4_claimsIn_1 (by decide) ?_
  refine z_icmp_neN O 12 dX4_claimsIn_2 (by decide) (by omega) (by omega) (fun h2 => by omega) (fun h2 => ?_)
  refine z_aload_n O dX4_claimsIn_5 rfl ?_
  refine z_iload_n O dX4_claimsIn_6 rfl ?_
  refine z_iload_n O dX4_claimsIn_7 rfl ?_
  refine z_V2e0 O (m_linesOf h hr hb hf) mX4_linesOf lkX4_170 rfl (by rfl) dX4_claimsIn_8 (Nat.le_of_ble_eq_true rfl) (by decide) ?_
  exact z_iret O dX4_claimsIn_11 ⟨rfl, rfl⟩
set_option maxRecDepth 20000 in
set_option maxHeartbeats 4000000 in
theorem m_claimsIn0 {b : Nat} {r we : Nat → Nat} {f : Nat} (h : RW w b r we) (hr : rowOK r) (hb : b ≤ 3420) (hs : sinceOK r) (hf : f < 3) : zS G 5 yX4_claimsIn cX4_claimsIn 10 (some .int) [.ref (zad (zb G) 21), .int (nI b), .int (nI f), .int (nI 0)] (yM G c0_ c1_ c2_ c3_ c4_ c5_ c6_ c7_ c8_ c9_ c10_ c11_ c12_ c13_ c14_ c15_ c16_ c17_ c18_ c19_ c20_ w kp tx txl rf ya yb at2 st2 iwd ifg nb fr la nms nd wf hh tl) 0 0 (zE (.int (nI (clm r 0 f))) (yM G c0_ c1_ c2_ c3_ c4_ c5_ c6_ c7_ c8_ c9_ c10_ c11_ c12_ c13_ c14_ c15_ c16_ c17_ c18_ c19_ c20_ w kp tx txl rf ya yb at2 st2 iwd ifg nb fr la nms nd wf hh tl)) := by
  refine zS.of (by decide) (Nat.le_of_ble_eq_true rfl) (fun F O hR1 hR2 => ?_)
  have O : zOk G F yX4_claimsIn cX4_claimsIn 10 (some .int) RX4 5 (yM G c0_ c1_ c2_ c3_ c4_ c5_ c6_ c7_ c8_ c9_ c10_ c11_ c12_ c13_ c14_ c15_ c16_ c17_ c18_ c19_ c20_ w kp tx txl rf ya yb at2 st2 iwd ifg nb fr la nms nd wf hh tl).length := O
  refine z_eq (lv' := [(0, _), (1, _), (2, _), (3, _)]) rfl rfl rfl ?_
  refine z_iload_n O dX4_claimsIn_0 rfl ?_
  refine z_iconst O (nI 2) dX4_claimsIn_1 (by decide) ?_
  refine z_icmp_neN O 12 dX4_claimsIn_2 (by decide) (by omega) (by omega) (fun h2 => ?_) (fun h2 => by omega)
  refine z_iconst O (nI 0) dX4_claimsIn_12 (by decide) ?_
  refine z_istore (lv' := [(0, _), (1, _), (2, _), (3, _), (4, _)]) O dX4_claimsIn_13 (by decide) rfl ?_
  refine z_iconst O (nI 0) dX4_claimsIn_15 (by decide) ?_
  refine z_istore (lv' := [(0, _), (1, _), (2, _), (3, _), (4, _), (5, _)]) O dX4_claimsIn_16 (by decide) rfl ?_
  refine zdown (P := fun c => Z G F 0 0 (zEnd G F (zE (.int (nI (clm r 0 f))) (yM G c0_ c1_ c2_ c3_ c4_ c5_ c6_ c7_ c8_ c9_ c10_ c11_ c12_ c13_ c14_ c15_ c16_ c17_ c18_ c19_ c20_ w kp tx txl rf ya yb at2 st2 iwd ifg nb fr la nms nd wf hh tl)) 0 0) 18 [(0, .ref (zad (zb G) 21)), (1, .int (nI b)), (2, .int (nI f)), (3, .int (nI 0)), (4, .int (nI (v0 r f c))), (5, .int (nI c))] [] (yM G c0_ c1_ c2_ c3_ c4_ c5_ c6_ c7_ c8_ c9_ c10_ c11_ c12_ c13_ c14_ c15_ c16_ c17_ c18_ c19_ c20_ w kp tx txl rf ya yb at2 st2 iwd ifg nb fr la nms nd wf hh tl)) (9) ?_ ?_ 
  · refine z_iload O dX4_claimsIn_18 rfl ?_
    refine z_bipush O (nI 9) dX4_claimsIn_20 (by decide) ?_
    refine z_icmp_geN O 188 dX4_claimsIn_22 (by decide) (by omega) (by omega) (fun h22 => ?_) (fun h22 => by omega)
    refine z_iload O dX4_claimsIn_188 rfl ?_
    exact z_iret O dX4_claimsIn_190 ⟨rfl, rfl⟩
  · intro c hc ih 
    refine z_iload O dX4_claimsIn_18 rfl ?_
    refine z_bipush O (nI 9) dX4_claimsIn_20 (by decide) ?_
    refine z_icmp_geN O 188 dX4_claimsIn_22 (by decide) (by omega) (by omega) (fun h22 => by omega) (fun h22 => ?_)
    refine z_iload O dX4_claimsIn_25 rfl ?_
    refine z_iload_n O dX4_claimsIn_27 rfl ?_
    refine z_iconst O (nI 1) dX4_claimsIn_28 (by decide) ?_
    refine z_icmp_neN O 47 dX4_claimsIn_29 (by decide) (by omega) (by omega) (fun h29 => ?_) (fun h29 => by omega)
    refine z_iconst O (nI 0) dX4_claimsIn_47 (by decide) ?_
    refine z_iaddN O dX4_claimsIn_48 ?_
    refine z_istore (lv' := [(0, _), (1, _), (2, _), (3, _), (4, _), (5, _)]) O dX4_claimsIn_49 (by decide) rfl ?_
    refine z_iconst O (nI 0) dX4_claimsIn_51 (by decide) ?_
    refine z_istore (lv' := [(0, _), (1, _), (2, _), (3, _), (4, _), (5, _), (6, _)]) O dX4_claimsIn_52 (by decide) rfl ?_
    refine zdown (P := fun p => Z G F 0 0 (zEnd G F (zE (.int (nI (clm r 0 f))) (yM G c0_ c1_ c2_ c3_ c4_ c5_ c6_ c7_ c8_ c9_ c10_ c11_ c12_ c13_ c14_ c15_ c16_ c17_ c18_ c19_ c20_ w kp tx txl rf ya yb at2 st2 iwd ifg nb fr la nms nd wf hh tl)) 0 0) 54 [(0, .ref (zad (zb G) 21)), (1, .int (nI b)), (2, .int (nI f)), (3, .int (nI 0)), (4, .int (nI (v0 r f c + v0I r f c p))), (5, .int (nI c)), (6, .int (nI p))] [] (yM G c0_ c1_ c2_ c3_ c4_ c5_ c6_ c7_ c8_ c9_ c10_ c11_ c12_ c13_ c14_ c15_ c16_ c17_ c18_ c19_ c20_ w kp tx txl rf ya yb at2 st2 iwd ifg nb fr la nms nd wf hh tl)) (r (108 + c)) ?_ ?_ 
    · refine z_iload O dX4_claimsIn_54 rfl ?_
      refine z_aload_n O dX4_claimsIn_56 rfl ?_
      refine z_get O dX4_claimsIn_57 flX4_7 (by rfl) (by rfl) ?_
      refine z_iload_n O dX4_claimsIn_60 rfl ?_
      refine z_iconst O (nI 1) dX4_claimsIn_61 (by decide) ?_
      refine z_iaddN O dX4_claimsIn_62 ?_
      refine z_iload O dX4_claimsIn_63 rfl ?_
      refine z_iaddN O dX4_claimsIn_65 ?_
      refine z_ialdN O dX4_claimsIn_66 (by rfl) (by omega) (by decide) ?_
      refine z_top (v' := .int (nI (r (108 + c)))) (congrArg Value.int (congrArg nI (h.1.2.1 c hc))) ?_
      refine z_icmp_geN O 182 dX4_claimsIn_67 (by decide) (by have := hr.2 c hc; omega) (by have := hr.2 c hc; omega) (fun h67 => ?_) (fun h67 => by omega)
      refine z_iincN (lv' := [(0, _), (1, _), (2, _), (3, _), (4, _), (5, _), (6, _)]) O 1 dX4_claimsIn_182 (by decide) rfl rfl (by decide) ?_
      refine z_goto O 18 dX4_claimsIn_185 (by decide) ?_
      refine z_kp (lv' := [(0, _), (1, _), (2, _), (3, _), (4, _), (5, _)]) [0, 1, 2, 3, 4, 5] rfl ?_
      exact ih
    · intro p hp ih 
      have h3 := hr.2 c hc
      refine z_iload O dX4_claimsIn_54 rfl ?_
      refine z_aload_n O dX4_claimsIn_56 rfl ?_
      refine z_get O dX4_claimsIn_57 flX4_7 (by rfl) (by rfl) ?_
      refine z_iload_n O dX4_claimsIn_60 rfl ?_
      refine z_iconst O (nI 1) dX4_claimsIn_61 (by decide) ?_
      refine z_iaddN O dX4_claimsIn_62 ?_
      refine z_iload O dX4_claimsIn_63 rfl ?_
      refine z_iaddN O dX4_claimsIn_65 ?_
      refine z_ialdN O dX4_claimsIn_66 (by rfl) (by omega) (by decide) ?_
      refine z_top (v' := .int (nI (r (108 + c)))) (congrArg Value.int (congrArg nI (h.1.2.1 c hc))) ?_
      refine z_icmp_geN O 182 dX4_claimsIn_67 (by decide) (by have := hr.2 c hc; omega) (by have := hr.2 c hc; omega) (fun h67 => by omega) (fun h67 => ?_)
      refine z_iload_n O dX4_claimsIn_70 rfl ?_
      refine z_iload O dX4_claimsIn_71 rfl ?_
      refine z_iload O dX4_claimsIn_73 rfl ?_
      refine z_S2e0 O m_placeOf mX4_placeOf lkX4_59 dX4_claimsIn_75 (Nat.le_of_ble_eq_true rfl) (by decide) ?_
      refine z_iaddN O dX4_claimsIn_78 ?_
      refine z_istore (lv' := [(0, _), (1, _), (2, _), (3, _), (4, _), (5, _), (6, _), (7, _)]) O dX4_claimsIn_79 (by decide) rfl ?_
      by_cases ho : fld r c p 1 = f
      · refine z_aload_n O dX4_claimsIn_81 rfl ?_
        refine z_get O dX4_claimsIn_82 flX4_7 (by rfl) (by rfl) ?_
        refine z_iload_n O dX4_claimsIn_85 rfl ?_
        refine z_iconst O (nI 0) dX4_claimsIn_86 (by decide) ?_
        refine z_iaddN O dX4_claimsIn_87 ?_
        refine z_ialdN O dX4_claimsIn_88 (by rfl) (by omega) (by decide) ?_
        refine z_top (v' := .int (nI (r 117))) (congrArg Value.int (congrArg nI h.1.1)) ?_
        refine z_aload_n O dX4_claimsIn_89 rfl ?_
        refine z_get O dX4_claimsIn_90 flX4_7 (by rfl) (by rfl) ?_
        refine z_iload O dX4_claimsIn_93 rfl ?_
        refine z_iconst O (nI 3) dX4_claimsIn_95 (by decide) ?_
        refine z_iaddN O dX4_claimsIn_96 ?_
        refine z_ialdN O dX4_claimsIn_97 (by rfl) (by omega) (by decide) ?_
        refine z_top (v' := .int (nI (fld r c p 3))) (congrArg Value.int (congrArg nI (h.1.2.2 c p 3 hc hp (by decide)))) ?_
        refine z_isubN O dX4_claimsIn_98 (hs c p hc hp) ?_
        refine z_iconst O (nI 1) dX4_claimsIn_99 (by decide) ?_
        refine z_iaddN O dX4_claimsIn_100 ?_
        refine z_istore (lv' := [(0, _), (1, _), (2, _), (3, _), (4, _), (5, _), (6, _), (7, _), (8, _)]) O dX4_claimsIn_101 (by decide) rfl ?_
        refine z_aload_n O dX4_claimsIn_103 rfl ?_
        refine z_get O dX4_claimsIn_104 flX4_7 (by rfl) (by rfl) ?_
        refine z_iload O dX4_claimsIn_107 rfl ?_
        refine z_iconst O (nI 1) dX4_claimsIn_109 (by decide) ?_
        refine z_iaddN O dX4_claimsIn_110 ?_
        refine z_ialdN O dX4_claimsIn_111 (by rfl) (by omega) (by decide) ?_
        refine z_top (v' := .int (nI (fld r c p 1))) (congrArg Value.int (congrArg nI (h.1.2.2 c p 1 hc hp (by decide)))) ?_
        refine z_iload_n O dX4_claimsIn_112 rfl ?_
        refine z_icmp_neN O 120 dX4_claimsIn_113 (by decide) (by have hx : fld r c p 1 < 1048576 := hr.1 _; omega) (by have hx : fld r c p 1 < 1048576 := hr.1 _; omega) (fun h113 => by omega) (fun h113 => ?_)
        refine z_iconst O (nI 1) dX4_claimsIn_116 (by decide) ?_
        refine z_goto O 121 dX4_claimsIn_117 (by decide) ?_
        refine z_istore (lv' := [(0, _), (1, _), (2, _), (3, _), (4, _), (5, _), (6, _), (7, _), (8, _), (9, _)]) O dX4_claimsIn_121 (by decide) rfl ?_
        refine z_iload O dX4_claimsIn_123 rfl ?_
        refine z_iload O dX4_claimsIn_125 rfl ?_
        refine z_if_eqN O 146 dX4_claimsIn_127 (by decide) (by omega) (fun h127 => by omega) (fun h127 => ?_)
        refine z_iload_n O dX4_claimsIn_130 rfl ?_
        refine z_if_neN O 146 dX4_claimsIn_131 (by decide) (by omega) (fun h131 => by omega) (fun h131 => ?_)
        refine z_aload_n O dX4_claimsIn_134 rfl ?_
        refine z_iload_n O dX4_claimsIn_135 rfl ?_
        refine z_iload O dX4_claimsIn_136 rfl ?_
        refine z_iload O dX4_claimsIn_138 rfl ?_
        refine z_V3e0 O (m_countsOf h hr hb hc hp) mX4_countsOf lkX4_164 rfl (by rfl) dX4_claimsIn_140 (Nat.le_of_ble_eq_true rfl) (by decide) ?_
        refine z_goto O 147 dX4_claimsIn_143 (by decide) ?_
        refine z_iaddN O dX4_claimsIn_147 ?_
        refine z_istore (lv' := [(0, _), (1, _), (2, _), (3, _), (4, _), (5, _), (6, _), (7, _), (8, _), (9, _)]) O dX4_claimsIn_148 (by decide) rfl ?_
        refine z_iload O dX4_claimsIn_150 rfl ?_
        refine z_if_eqN O 172 dX4_claimsIn_152 (by decide) (by omega) (fun h152 => by omega) (fun h152 => ?_)
        refine z_iload_n O dX4_claimsIn_155 rfl ?_
        refine z_iconst O (nI 3) dX4_claimsIn_156 (by decide) ?_
        refine z_icmp_neN O 172 dX4_claimsIn_157 (by decide) (by omega) (by omega) (fun h157 => ?_) (fun h157 => by omega)
        refine z_iload O dX4_claimsIn_172 rfl ?_
        refine z_istore (lv' := [(0, _), (1, _), (2, _), (3, _), (4, _), (5, _), (6, _), (7, _), (8, _), (9, _)]) O dX4_claimsIn_174 (by decide) rfl ?_
        refine z_iincN (lv' := [(0, _), (1, _), (2, _), (3, _), (4, _), (5, _), (6, _), (7, _), (8, _), (9, _)]) O 1 dX4_claimsIn_176 (by decide) rfl rfl (by decide) ?_
        refine z_goto O 54 dX4_claimsIn_179 (by decide) ?_
        refine z_kp (lv' := [(0, _), (1, _), (2, _), (3, _), (4, _), (5, _), (6, _)]) [0, 1, 2, 3, 4, 5, 6] rfl ?_
        rw [show v0I r f c (p + 1) = v0I r f c p + cntC r c (p + 1) from congrArg (v0I r f c p + ·) (if_pos ho), ← Nat.add_assoc] at ih
        exact ih
      · refine z_aload_n O dX4_claimsIn_81 rfl ?_
        refine z_get O dX4_claimsIn_82 flX4_7 (by rfl) (by rfl) ?_
        refine z_iload_n O dX4_claimsIn_85 rfl ?_
        refine z_iconst O (nI 0) dX4_claimsIn_86 (by decide) ?_
        refine z_iaddN O dX4_claimsIn_87 ?_
        refine z_ialdN O dX4_claimsIn_88 (by rfl) (by omega) (by decide) ?_
        refine z_top (v' := .int (nI (r 117))) (congrArg Value.int (congrArg nI h.1.1)) ?_
        refine z_aload_n O dX4_claimsIn_89 rfl ?_
        refine z_get O dX4_claimsIn_90 flX4_7 (by rfl) (by rfl) ?_
        refine z_iload O dX4_claimsIn_93 rfl ?_
        refine z_iconst O (nI 3) dX4_claimsIn_95 (by decide) ?_
        refine z_iaddN O dX4_claimsIn_96 ?_
        refine z_ialdN O dX4_claimsIn_97 (by rfl) (by omega) (by decide) ?_
        refine z_top (v' := .int (nI (fld r c p 3))) (congrArg Value.int (congrArg nI (h.1.2.2 c p 3 hc hp (by decide)))) ?_
        refine z_isubN O dX4_claimsIn_98 (hs c p hc hp) ?_
        refine z_iconst O (nI 1) dX4_claimsIn_99 (by decide) ?_
        refine z_iaddN O dX4_claimsIn_100 ?_
        refine z_istore (lv' := [(0, _), (1, _), (2, _), (3, _), (4, _), (5, _), (6, _), (7, _), (8, _)]) O dX4_claimsIn_101 (by decide) rfl ?_
        refine z_aload_n O dX4_claimsIn_103 rfl ?_
        refine z_get O dX4_claimsIn_104 flX4_7 (by rfl) (by rfl) ?_
        refine z_iload O dX4_claimsIn_107 rfl ?_
        refine z_iconst O (nI 1) dX4_claimsIn_109 (by decide) ?_
        refine z_iaddN O dX4_claimsIn_110 ?_
        refine z_ialdN O dX4_claimsIn_111 (by rfl) (by omega) (by decide) ?_
        refine z_top (v' := .int (nI (fld r c p 1))) (congrArg Value.int (congrArg nI (h.1.2.2 c p 1 hc hp (by decide)))) ?_
        refine z_iload_n O dX4_claimsIn_112 rfl ?_
        refine z_icmp_neN O 120 dX4_claimsIn_113 (by decide) (by have hx : fld r c p 1 < 1048576 := hr.1 _; omega) (by have hx : fld r c p 1 < 1048576 := hr.1 _; omega) (fun h113 => ?_) (fun h113 => by omega)
        refine z_iconst O (nI 0) dX4_claimsIn_120 (by decide) ?_
        refine z_istore (lv' := [(0, _), (1, _), (2, _), (3, _), (4, _), (5, _), (6, _), (7, _), (8, _), (9, _)]) O dX4_claimsIn_121 (by decide) rfl ?_
        refine z_iload O dX4_claimsIn_123 rfl ?_
        refine z_iload O dX4_claimsIn_125 rfl ?_
        refine z_if_eqN O 146 dX4_claimsIn_127 (by decide) (by omega) (fun h127 => ?_) (fun h127 => by omega)
        refine z_iconst O (nI 0) dX4_claimsIn_146 (by decide) ?_
        refine z_iaddN O dX4_claimsIn_147 ?_
        refine z_istore (lv' := [(0, _), (1, _), (2, _), (3, _), (4, _), (5, _), (6, _), (7, _), (8, _), (9, _)]) O dX4_claimsIn_148 (by decide) rfl ?_
        refine z_iload O dX4_claimsIn_150 rfl ?_
        refine z_if_eqN O 172 dX4_claimsIn_152 (by decide) (by omega) (fun h152 => ?_) (fun h152 => by omega)
        refine z_iload O dX4_claimsIn_172 rfl ?_
        refine z_istore (lv' := [(0, _), (1, _), (2, _), (3, _), (4, _), (5, _), (6, _), (7, _), (8, _), (9, _)]) O dX4_claimsIn_174 (by decide) rfl ?_
        refine z_iincN (lv' := [(0, _), (1, _), (2, _), (3, _), (4, _), (5, _), (6, _), (7, _), (8, _), (9, _)]) O 1 dX4_claimsIn_176 (by decide) rfl rfl (by decide) ?_
        refine z_goto O 54 dX4_claimsIn_179 (by decide) ?_
        refine z_kp (lv' := [(0, _), (1, _), (2, _), (3, _), (4, _), (5, _), (6, _)]) [0, 1, 2, 3, 4, 5, 6] rfl ?_
        rw [show v0I r f c (p + 1) = v0I r f c p + 0 from congrArg (v0I r f c p + ·) (if_neg ho), ← Nat.add_assoc] at ih
        exact ih
set_option maxRecDepth 20000 in
set_option maxHeartbeats 4000000 in
theorem m_claimsIn1 {b : Nat} {r we : Nat → Nat} {f : Nat} (h : RW w b r we) (hr : rowOK r) (hb : b ≤ 3420) (hs : sinceOK r) (hf : f < 3) : zS G 5 yX4_claimsIn cX4_claimsIn 10 (some .int) [.ref (zad (zb G) 21), .int (nI b), .int (nI f), .int (nI 1)] (yM G c0_ c1_ c2_ c3_ c4_ c5_ c6_ c7_ c8_ c9_ c10_ c11_ c12_ c13_ c14_ c15_ c16_ c17_ c18_ c19_ c20_ w kp tx txl rf ya yb at2 st2 iwd ifg nb fr la nms nd wf hh tl) 0 0 (zE (.int (nI (clm r 1 f))) (yM G c0_ c1_ c2_ c3_ c4_ c5_ c6_ c7_ c8_ c9_ c10_ c11_ c12_ c13_ c14_ c15_ c16_ c17_ c18_ c19_ c20_ w kp tx txl rf ya yb at2 st2 iwd ifg nb fr la nms nd wf hh tl)) := by
  refine zS.of (by decide) (Nat.le_of_ble_eq_true rfl) (fun F O hR1 hR2 => ?_)
  have O : zOk G F yX4_claimsIn cX4_claimsIn 10 (some .int) RX4 5 (yM G c0_ c1_ c2_ c3_ c4_ c5_ c6_ c7_ c8_ c9_ c10_ c11_ c12_ c13_ c14_ c15_ c16_ c17_ c18_ c19_ c20_ w kp tx txl rf ya yb at2 st2 iwd ifg nb fr la nms nd wf hh tl).length := O
  refine z_eq (lv' := [(0, _), (1, _), (2, _), (3, _)]) rfl rfl rfl ?_
  refine z_iload_n O dX4_claimsIn_0 rfl ?_
  refine z_iconst O (nI 2) dX4_claimsIn_1 (by decide) ?_
  refine z_icmp_neN O 12 dX4_claimsIn_2 (by decide) (by omega) (by omega) (fun h2 => ?_) (fun h2 => by omega)
  refine z_iconst O (nI 0) dX4_claimsIn_12 (by decide) ?_
  refine z_istore (lv' := [(0, _), (1, _), (2, _), (3, _), (4, _)]) O dX4_claimsIn_13 (by decide) rfl ?_
  refine z_iconst O (nI 0) dX4_claimsIn_15 (by decide) ?_
  refine z_istore (lv' := [(0, _), (1, _), (2, _), (3, _), (4, _), (5, _)]) O dX4_claimsIn_16 (by decide) rfl ?_
  refine zdown (P := fun c => Z G F 0 0 (zEnd G F (zE (.int (nI (clm r 1 f))) (yM G c0_ c1_ c2_ c3_ c4_ c5_ c6_ c7_ c8_ c9_ c10_ c11_ c12_ c13_ c14_ c15_ c16_ c17_ c18_ c19_ c20_ w kp tx txl rf ya yb at2 st2 iwd ifg nb fr la nms nd wf hh tl)) 0 0) 18 [(0, .ref (zad (zb G) 21)), (1, .int (nI b)), (2, .int (nI f)), (3, .int (nI 1)), (4, .int (nI (v1 r f c))), (5, .int (nI c))] [] (yM G c0_ c1_ c2_ c3_ c4_ c5_ c6_ c7_ c8_ c9_ c10_ c11_ c12_ c13_ c14_ c15_ c16_ c17_ c18_ c19_ c20_ w kp tx txl rf ya yb at2 st2 iwd ifg nb fr la nms nd wf hh tl)) (9) ?_ ?_ 
  · refine z_iload O dX4_claimsIn_18 rfl ?_
    refine z_bipush O (nI 9) dX4_claimsIn_20 (by decide) ?_
    refine z_icmp_geN O 188 dX4_claimsIn_22 (by decide) (by omega) (by omega) (fun h22 => ?_) (fun h22 => by omega)
    refine z_iload O dX4_claimsIn_188 rfl ?_
    exact z_iret O dX4_claimsIn_190 ⟨rfl, rfl⟩
  · intro c hc ih 
    refine z_iload O dX4_claimsIn_18 rfl ?_
    refine z_bipush O (nI 9) dX4_claimsIn_20 (by decide) ?_
    refine z_icmp_geN O 188 dX4_claimsIn_22 (by decide) (by omega) (by omega) (fun h22 => by omega) (fun h22 => ?_)
    by_cases hof : tfo r c = some f
    · refine z_iload O dX4_claimsIn_25 rfl ?_
      refine z_iload_n O dX4_claimsIn_27 rfl ?_
      refine z_iconst O (nI 1) dX4_claimsIn_28 (by decide) ?_
      refine z_icmp_neN O 47 dX4_claimsIn_29 (by decide) (by omega) (by omega) (fun h29 => by omega) (fun h29 => ?_)
      refine z_aload_n O dX4_claimsIn_32 rfl ?_
      refine z_iload_n O dX4_claimsIn_33 rfl ?_
      refine z_iload O dX4_claimsIn_34 rfl ?_
      refine z_V2e0 O (m_familyAt h hr hb hc) mX4_familyAt lkX4_167 rfl (by rfl) dX4_claimsIn_36 (Nat.le_of_ble_eq_true rfl) (by decide) ?_
      refine z_iload_n O dX4_claimsIn_39 rfl ?_
      refine z_icmp_ne O 47 dX4_claimsIn_40 (by decide) (fun h40 => by exact absurd (congrArg optI hof) h40) (fun h40 => ?_)
      refine z_iconst O (nI 1) dX4_claimsIn_43 (by decide) ?_
      refine z_goto O 48 dX4_claimsIn_44 (by decide) ?_
      refine z_iaddN O dX4_claimsIn_48 ?_
      refine z_istore (lv' := [(0, _), (1, _), (2, _), (3, _), (4, _), (5, _)]) O dX4_claimsIn_49 (by decide) rfl ?_
      rw [show v1 r f c + 1 = v1 r f (c + 1) from (congrArg (v1 r f c + ·) (if_pos hof)).symm]
      refine z_iconst O (nI 0) dX4_claimsIn_51 (by decide) ?_
      refine z_istore (lv' := [(0, _), (1, _), (2, _), (3, _), (4, _), (5, _), (6, _)]) O dX4_claimsIn_52 (by decide) rfl ?_
      refine zdown (P := fun p => Z G F 0 0 (zEnd G F (zE (.int (nI (clm r 1 f))) (yM G c0_ c1_ c2_ c3_ c4_ c5_ c6_ c7_ c8_ c9_ c10_ c11_ c12_ c13_ c14_ c15_ c16_ c17_ c18_ c19_ c20_ w kp tx txl rf ya yb at2 st2 iwd ifg nb fr la nms nd wf hh tl)) 0 0) 54 [(0, .ref (zad (zb G) 21)), (1, .int (nI b)), (2, .int (nI f)), (3, .int (nI 1)), (4, .int (nI (v1 r f (c + 1)))), (5, .int (nI c)), (6, .int (nI p))] [] (yM G c0_ c1_ c2_ c3_ c4_ c5_ c6_ c7_ c8_ c9_ c10_ c11_ c12_ c13_ c14_ c15_ c16_ c17_ c18_ c19_ c20_ w kp tx txl rf ya yb at2 st2 iwd ifg nb fr la nms nd wf hh tl)) (r (108 + c)) ?_ ?_ 
      · refine z_iload O dX4_claimsIn_54 rfl ?_
        refine z_aload_n O dX4_claimsIn_56 rfl ?_
        refine z_get O dX4_claimsIn_57 flX4_7 (by rfl) (by rfl) ?_
        refine z_iload_n O dX4_claimsIn_60 rfl ?_
        refine z_iconst O (nI 1) dX4_claimsIn_61 (by decide) ?_
        refine z_iaddN O dX4_claimsIn_62 ?_
        refine z_iload O dX4_claimsIn_63 rfl ?_
        refine z_iaddN O dX4_claimsIn_65 ?_
        refine z_ialdN O dX4_claimsIn_66 (by rfl) (by omega) (by decide) ?_
        refine z_top (v' := .int (nI (r (108 + c)))) (congrArg Value.int (congrArg nI (h.1.2.1 c hc))) ?_
        refine z_icmp_geN O 182 dX4_claimsIn_67 (by decide) (by have := hr.2 c hc; omega) (by have := hr.2 c hc; omega) (fun h67 => ?_) (fun h67 => by omega)
        refine z_iincN (lv' := [(0, _), (1, _), (2, _), (3, _), (4, _), (5, _), (6, _)]) O 1 dX4_claimsIn_182 (by decide) rfl rfl (by decide) ?_
        refine z_goto O 18 dX4_claimsIn_185 (by decide) ?_
        refine z_kp (lv' := [(0, _), (1, _), (2, _), (3, _), (4, _), (5, _)]) [0, 1, 2, 3, 4, 5] rfl ?_
        exact ih
      · intro p hp ih 
        have h3 := hr.2 c hc
        refine z_iload O dX4_claimsIn_54 rfl ?_
        refine z_aload_n O dX4_claimsIn_56 rfl ?_
        refine z_get O dX4_claimsIn_57 flX4_7 (by rfl) (by rfl) ?_
        refine z_iload_n O dX4_claimsIn_60 rfl ?_
        refine z_iconst O (nI 1) dX4_claimsIn_61 (by decide) ?_
        refine z_iaddN O dX4_claimsIn_62 ?_
        refine z_iload O dX4_claimsIn_63 rfl ?_
        refine z_iaddN O dX4_claimsIn_65 ?_
        refine z_ialdN O dX4_claimsIn_66 (by rfl) (by omega) (by decide) ?_
        refine z_top (v' := .int (nI (r (108 + c)))) (congrArg Value.int (congrArg nI (h.1.2.1 c hc))) ?_
        refine z_icmp_geN O 182 dX4_claimsIn_67 (by decide) (by have := hr.2 c hc; omega) (by have := hr.2 c hc; omega) (fun h67 => by omega) (fun h67 => ?_)
        refine z_iload_n O dX4_claimsIn_70 rfl ?_
        refine z_iload O dX4_claimsIn_71 rfl ?_
        refine z_iload O dX4_claimsIn_73 rfl ?_
        refine z_S2e0 O m_placeOf mX4_placeOf lkX4_59 dX4_claimsIn_75 (Nat.le_of_ble_eq_true rfl) (by decide) ?_
        refine z_iaddN O dX4_claimsIn_78 ?_
        refine z_istore (lv' := [(0, _), (1, _), (2, _), (3, _), (4, _), (5, _), (6, _), (7, _)]) O dX4_claimsIn_79 (by decide) rfl ?_
        by_cases ho : fld r c p 1 = f
        · refine z_aload_n O dX4_claimsIn_81 rfl ?_
          refine z_get O dX4_claimsIn_82 flX4_7 (by rfl) (by rfl) ?_
          refine z_iload_n O dX4_claimsIn_85 rfl ?_
          refine z_iconst O (nI 0) dX4_claimsIn_86 (by decide) ?_
          refine z_iaddN O dX4_claimsIn_87 ?_
          refine z_ialdN O dX4_claimsIn_88 (by rfl) (by omega) (by decide) ?_
          refine z_top (v' := .int (nI (r 117))) (congrArg Value.int (congrArg nI h.1.1)) ?_
          refine z_aload_n O dX4_claimsIn_89 rfl ?_
          refine z_get O dX4_claimsIn_90 flX4_7 (by rfl) (by rfl) ?_
          refine z_iload O dX4_claimsIn_93 rfl ?_
          refine z_iconst O (nI 3) dX4_claimsIn_95 (by decide) ?_
          refine z_iaddN O dX4_claimsIn_96 ?_
          refine z_ialdN O dX4_claimsIn_97 (by rfl) (by omega) (by decide) ?_
          refine z_top (v' := .int (nI (fld r c p 3))) (congrArg Value.int (congrArg nI (h.1.2.2 c p 3 hc hp (by decide)))) ?_
          refine z_isubN O dX4_claimsIn_98 (hs c p hc hp) ?_
          refine z_iconst O (nI 1) dX4_claimsIn_99 (by decide) ?_
          refine z_iaddN O dX4_claimsIn_100 ?_
          refine z_istore (lv' := [(0, _), (1, _), (2, _), (3, _), (4, _), (5, _), (6, _), (7, _), (8, _)]) O dX4_claimsIn_101 (by decide) rfl ?_
          refine z_aload_n O dX4_claimsIn_103 rfl ?_
          refine z_get O dX4_claimsIn_104 flX4_7 (by rfl) (by rfl) ?_
          refine z_iload O dX4_claimsIn_107 rfl ?_
          refine z_iconst O (nI 1) dX4_claimsIn_109 (by decide) ?_
          refine z_iaddN O dX4_claimsIn_110 ?_
          refine z_ialdN O dX4_claimsIn_111 (by rfl) (by omega) (by decide) ?_
          refine z_top (v' := .int (nI (fld r c p 1))) (congrArg Value.int (congrArg nI (h.1.2.2 c p 1 hc hp (by decide)))) ?_
          refine z_iload_n O dX4_claimsIn_112 rfl ?_
          refine z_icmp_neN O 120 dX4_claimsIn_113 (by decide) (by have hx : fld r c p 1 < 1048576 := hr.1 _; omega) (by have hx : fld r c p 1 < 1048576 := hr.1 _; omega) (fun h113 => by omega) (fun h113 => ?_)
          refine z_iconst O (nI 1) dX4_claimsIn_116 (by decide) ?_
          refine z_goto O 121 dX4_claimsIn_117 (by decide) ?_
          refine z_istore (lv' := [(0, _), (1, _), (2, _), (3, _), (4, _), (5, _), (6, _), (7, _), (8, _), (9, _)]) O dX4_claimsIn_121 (by decide) rfl ?_
          refine z_iload O dX4_claimsIn_123 rfl ?_
          refine z_iload O dX4_claimsIn_125 rfl ?_
          refine z_if_eqN O 146 dX4_claimsIn_127 (by decide) (by omega) (fun h127 => by omega) (fun h127 => ?_)
          refine z_iload_n O dX4_claimsIn_130 rfl ?_
          refine z_if_neN O 146 dX4_claimsIn_131 (by decide) (by omega) (fun h131 => ?_) (fun h131 => by omega)
          refine z_iconst O (nI 0) dX4_claimsIn_146 (by decide) ?_
          refine z_iaddN O dX4_claimsIn_147 ?_
          refine z_istore (lv' := [(0, _), (1, _), (2, _), (3, _), (4, _), (5, _), (6, _), (7, _), (8, _), (9, _)]) O dX4_claimsIn_148 (by decide) rfl ?_
          refine z_iload O dX4_claimsIn_150 rfl ?_
          refine z_if_eqN O 172 dX4_claimsIn_152 (by decide) (by omega) (fun h152 => by omega) (fun h152 => ?_)
          refine z_iload_n O dX4_claimsIn_155 rfl ?_
          refine z_iconst O (nI 3) dX4_claimsIn_156 (by decide) ?_
          refine z_icmp_neN O 172 dX4_claimsIn_157 (by decide) (by omega) (by omega) (fun h157 => ?_) (fun h157 => by omega)
          refine z_iload O dX4_claimsIn_172 rfl ?_
          refine z_istore (lv' := [(0, _), (1, _), (2, _), (3, _), (4, _), (5, _), (6, _), (7, _), (8, _), (9, _)]) O dX4_claimsIn_174 (by decide) rfl ?_
          refine z_iincN (lv' := [(0, _), (1, _), (2, _), (3, _), (4, _), (5, _), (6, _), (7, _), (8, _), (9, _)]) O 1 dX4_claimsIn_176 (by decide) rfl rfl (by decide) ?_
          refine z_goto O 54 dX4_claimsIn_179 (by decide) ?_
          refine z_kp (lv' := [(0, _), (1, _), (2, _), (3, _), (4, _), (5, _), (6, _)]) [0, 1, 2, 3, 4, 5, 6] rfl ?_
          exact ih
        · refine z_aload_n O dX4_claimsIn_81 rfl ?_
          refine z_get O dX4_claimsIn_82 flX4_7 (by rfl) (by rfl) ?_
          refine z_iload_n O dX4_claimsIn_85 rfl ?_
          refine z_iconst O (nI 0) dX4_claimsIn_86 (by decide) ?_
          refine z_iaddN O dX4_claimsIn_87 ?_
          refine z_ialdN O dX4_claimsIn_88 (by rfl) (by omega) (by decide) ?_
          refine z_top (v' := .int (nI (r 117))) (congrArg Value.int (congrArg nI h.1.1)) ?_
          refine z_aload_n O dX4_claimsIn_89 rfl ?_
          refine z_get O dX4_claimsIn_90 flX4_7 (by rfl) (by rfl) ?_
          refine z_iload O dX4_claimsIn_93 rfl ?_
          refine z_iconst O (nI 3) dX4_claimsIn_95 (by decide) ?_
          refine z_iaddN O dX4_claimsIn_96 ?_
          refine z_ialdN O dX4_claimsIn_97 (by rfl) (by omega) (by decide) ?_
          refine z_top (v' := .int (nI (fld r c p 3))) (congrArg Value.int (congrArg nI (h.1.2.2 c p 3 hc hp (by decide)))) ?_
          refine z_isubN O dX4_claimsIn_98 (hs c p hc hp) ?_
          refine z_iconst O (nI 1) dX4_claimsIn_99 (by decide) ?_
          refine z_iaddN O dX4_claimsIn_100 ?_
          refine z_istore (lv' := [(0, _), (1, _), (2, _), (3, _), (4, _), (5, _), (6, _), (7, _), (8, _)]) O dX4_claimsIn_101 (by decide) rfl ?_
          refine z_aload_n O dX4_claimsIn_103 rfl ?_
          refine z_get O dX4_claimsIn_104 flX4_7 (by rfl) (by rfl) ?_
          refine z_iload O dX4_claimsIn_107 rfl ?_
          refine z_iconst O (nI 1) dX4_claimsIn_109 (by decide) ?_
          refine z_iaddN O dX4_claimsIn_110 ?_
          refine z_ialdN O dX4_claimsIn_111 (by rfl) (by omega) (by decide) ?_
          refine z_top (v' := .int (nI (fld r c p 1))) (congrArg Value.int (congrArg nI (h.1.2.2 c p 1 hc hp (by decide)))) ?_
          refine z_iload_n O dX4_claimsIn_112 rfl ?_
          refine z_icmp_neN O 120 dX4_claimsIn_113 (by decide) (by have hx : fld r c p 1 < 1048576 := hr.1 _; omega) (by have hx : fld r c p 1 < 1048576 := hr.1 _; omega) (fun h113 => ?_) (fun h113 => by omega)
          refine z_iconst O (nI 0) dX4_claimsIn_120 (by decide) ?_
          refine z_istore (lv' := [(0, _), (1, _), (2, _), (3, _), (4, _), (5, _), (6, _), (7, _), (8, _), (9, _)]) O dX4_claimsIn_121 (by decide) rfl ?_
          refine z_iload O dX4_claimsIn_123 rfl ?_
          refine z_iload O dX4_claimsIn_125 rfl ?_
          refine z_if_eqN O 146 dX4_claimsIn_127 (by decide) (by omega) (fun h127 => ?_) (fun h127 => by omega)
          refine z_iconst O (nI 0) dX4_claimsIn_146 (by decide) ?_
          refine z_iaddN O dX4_claimsIn_147 ?_
          refine z_istore (lv' := [(0, _), (1, _), (2, _), (3, _), (4, _), (5, _), (6, _), (7, _), (8, _), (9, _)]) O dX4_claimsIn_148 (by decide) rfl ?_
          refine z_iload O dX4_claimsIn_150 rfl ?_
          refine z_if_eqN O 172 dX4_claimsIn_152 (by decide) (by omega) (fun h152 => ?_) (fun h152 => by omega)
          refine z_iload O dX4_claimsIn_172 rfl ?_
          refine z_istore (lv' := [(0, _), (1, _), (2, _), (3, _), (4, _), (5, _), (6, _), (7, _), (8, _), (9, _)]) O dX4_claimsIn_174 (by decide) rfl ?_
          refine z_iincN (lv' := [(0, _), (1, _), (2, _), (3, _), (4, _), (5, _), (6, _), (7, _), (8, _), (9, _)]) O 1 dX4_claimsIn_176 (by decide) rfl rfl (by decide) ?_
          refine z_goto O 54 dX4_claimsIn_179 (by decide) ?_
          refine z_kp (lv' := [(0, _), (1, _), (2, _), (3, _), (4, _), (5, _), (6, _)]) [0, 1, 2, 3, 4, 5, 6] rfl ?_
          exact ih
    · refine z_iload O dX4_claimsIn_25 rfl ?_
      refine z_iload_n O dX4_claimsIn_27 rfl ?_
      refine z_iconst O (nI 1) dX4_claimsIn_28 (by decide) ?_
      refine z_icmp_neN O 47 dX4_claimsIn_29 (by decide) (by omega) (by omega) (fun h29 => by omega) (fun h29 => ?_)
      refine z_aload_n O dX4_claimsIn_32 rfl ?_
      refine z_iload_n O dX4_claimsIn_33 rfl ?_
      refine z_iload O dX4_claimsIn_34 rfl ?_
      refine z_V2e0 O (m_familyAt h hr hb hc) mX4_familyAt lkX4_167 rfl (by rfl) dX4_claimsIn_36 (Nat.le_of_ble_eq_true rfl) (by decide) ?_
      refine z_iload_n O dX4_claimsIn_39 rfl ?_
      refine z_icmp_ne O 47 dX4_claimsIn_40 (by decide) (fun h40 => ?_) (fun h40 => by exact absurd ((optI_eq (tfo_bd hr) (b := some f) (by intro g hg; cases hg; omega)).mp h40) hof)
      refine z_iconst O (nI 0) dX4_claimsIn_47 (by decide) ?_
      refine z_iaddN O dX4_claimsIn_48 ?_
      refine z_istore (lv' := [(0, _), (1, _), (2, _), (3, _), (4, _), (5, _)]) O dX4_claimsIn_49 (by decide) rfl ?_
      rw [show v1 r f c + 0 = v1 r f (c + 1) from (congrArg (v1 r f c + ·) (if_neg hof)).symm]
      refine z_iconst O (nI 0) dX4_claimsIn_51 (by decide) ?_
      refine z_istore (lv' := [(0, _), (1, _), (2, _), (3, _), (4, _), (5, _), (6, _)]) O dX4_claimsIn_52 (by decide) rfl ?_
      refine zdown (P := fun p => Z G F 0 0 (zEnd G F (zE (.int (nI (clm r 1 f))) (yM G c0_ c1_ c2_ c3_ c4_ c5_ c6_ c7_ c8_ c9_ c10_ c11_ c12_ c13_ c14_ c15_ c16_ c17_ c18_ c19_ c20_ w kp tx txl rf ya yb at2 st2 iwd ifg nb fr la nms nd wf hh tl)) 0 0) 54 [(0, .ref (zad (zb G) 21)), (1, .int (nI b)), (2, .int (nI f)), (3, .int (nI 1)), (4, .int (nI (v1 r f (c + 1)))), (5, .int (nI c)), (6, .int (nI p))] [] (yM G c0_ c1_ c2_ c3_ c4_ c5_ c6_ c7_ c8_ c9_ c10_ c11_ c12_ c13_ c14_ c15_ c16_ c17_ c18_ c19_ c20_ w kp tx txl rf ya yb at2 st2 iwd ifg nb fr la nms nd wf hh tl)) (r (108 + c)) ?_ ?_ 
      · refine z_iload O dX4_claimsIn_54 rfl ?_
        refine z_aload_n O dX4_claimsIn_56 rfl ?_
        refine z_get O dX4_claimsIn_57 flX4_7 (by rfl) (by rfl) ?_
        refine z_iload_n O dX4_claimsIn_60 rfl ?_
        refine z_iconst O (nI 1) dX4_claimsIn_61 (by decide) ?_
        refine z_iaddN O dX4_claimsIn_62 ?_
        refine z_iload O dX4_claimsIn_63 rfl ?_
        refine z_iaddN O dX4_claimsIn_65 ?_
        refine z_ialdN O dX4_claimsIn_66 (by rfl) (by omega) (by decide) ?_
        refine z_top (v' := .int (nI (r (108 + c)))) (congrArg Value.int (congrArg nI (h.1.2.1 c hc))) ?_
        refine z_icmp_geN O 182 dX4_claimsIn_67 (by decide) (by have := hr.2 c hc; omega) (by have := hr.2 c hc; omega) (fun h67 => ?_) (fun h67 => by omega)
        refine z_iincN (lv' := [(0, _), (1, _), (2, _), (3, _), (4, _), (5, _), (6, _)]) O 1 dX4_claimsIn_182 (by decide) rfl rfl (by decide) ?_
        refine z_goto O 18 dX4_claimsIn_185 (by decide) ?_
        refine z_kp (lv' := [(0, _), (1, _), (2, _), (3, _), (4, _), (5, _)]) [0, 1, 2, 3, 4, 5] rfl ?_
        exact ih
      · intro p hp ih 
        have h3 := hr.2 c hc
        refine z_iload O dX4_claimsIn_54 rfl ?_
        refine z_aload_n O dX4_claimsIn_56 rfl ?_
        refine z_get O dX4_claimsIn_57 flX4_7 (by rfl) (by rfl) ?_
        refine z_iload_n O dX4_claimsIn_60 rfl ?_
        refine z_iconst O (nI 1) dX4_claimsIn_61 (by decide) ?_
        refine z_iaddN O dX4_claimsIn_62 ?_
        refine z_iload O dX4_claimsIn_63 rfl ?_
        refine z_iaddN O dX4_claimsIn_65 ?_
        refine z_ialdN O dX4_claimsIn_66 (by rfl) (by omega) (by decide) ?_
        refine z_top (v' := .int (nI (r (108 + c)))) (congrArg Value.int (congrArg nI (h.1.2.1 c hc))) ?_
        refine z_icmp_geN O 182 dX4_claimsIn_67 (by decide) (by have := hr.2 c hc; omega) (by have := hr.2 c hc; omega) (fun h67 => by omega) (fun h67 => ?_)
        refine z_iload_n O dX4_claimsIn_70 rfl ?_
        refine z_iload O dX4_claimsIn_71 rfl ?_
        refine z_iload O dX4_claimsIn_73 rfl ?_
        refine z_S2e0 O m_placeOf mX4_placeOf lkX4_59 dX4_claimsIn_75 (Nat.le_of_ble_eq_true rfl) (by decide) ?_
        refine z_iaddN O dX4_claimsIn_78 ?_
        refine z_istore (lv' := [(0, _), (1, _), (2, _), (3, _), (4, _), (5, _), (6, _), (7, _)]) O dX4_claimsIn_79 (by decide) rfl ?_
        by_cases ho : fld r c p 1 = f
        · refine z_aload_n O dX4_claimsIn_81 rfl ?_
          refine z_get O dX4_claimsIn_82 flX4_7 (by rfl) (by rfl) ?_
          refine z_iload_n O dX4_claimsIn_85 rfl ?_
          refine z_iconst O (nI 0) dX4_claimsIn_86 (by decide) ?_
          refine z_iaddN O dX4_claimsIn_87 ?_
          refine z_ialdN O dX4_claimsIn_88 (by rfl) (by omega) (by decide) ?_
          refine z_top (v' := .int (nI (r 117))) (congrArg Value.int (congrArg nI h.1.1)) ?_
          refine z_aload_n O dX4_claimsIn_89 rfl ?_
          refine z_get O dX4_claimsIn_90 flX4_7 (by rfl) (by rfl) ?_
          refine z_iload O dX4_claimsIn_93 rfl ?_
          refine z_iconst O (nI 3) dX4_claimsIn_95 (by decide) ?_
          refine z_iaddN O dX4_claimsIn_96 ?_
          refine z_ialdN O dX4_claimsIn_97 (by rfl) (by omega) (by decide) ?_
          refine z_top (v' := .int (nI (fld r c p 3))) (congrArg Value.int (congrArg nI (h.1.2.2 c p 3 hc hp (by decide)))) ?_
          refine z_isubN O dX4_claimsIn_98 (hs c p hc hp) ?_
          refine z_iconst O (nI 1) dX4_claimsIn_99 (by decide) ?_
          refine z_iaddN O dX4_claimsIn_100 ?_
          refine z_istore (lv' := [(0, _), (1, _), (2, _), (3, _), (4, _), (5, _), (6, _), (7, _), (8, _)]) O dX4_claimsIn_101 (by decide) rfl ?_
          refine z_aload_n O dX4_claimsIn_103 rfl ?_
          refine z_get O dX4_claimsIn_104 flX4_7 (by rfl) (by rfl) ?_
          refine z_iload O dX4_claimsIn_107 rfl ?_
          refine z_iconst O (nI 1) dX4_claimsIn_109 (by decide) ?_
          refine z_iaddN O dX4_claimsIn_110 ?_
          refine z_ialdN O dX4_claimsIn_111 (by rfl) (by omega) (by decide) ?_
          refine z_top (v' := .int (nI (fld r c p 1))) (congrArg Value.int (congrArg nI (h.1.2.2 c p 1 hc hp (by decide)))) ?_
          refine z_iload_n O dX4_claimsIn_112 rfl ?_
          refine z_icmp_neN O 120 dX4_claimsIn_113 (by decide) (by have hx : fld r c p 1 < 1048576 := hr.1 _; omega) (by have hx : fld r c p 1 < 1048576 := hr.1 _; omega) (fun h113 => by omega) (fun h113 => ?_)
          refine z_iconst O (nI 1) dX4_claimsIn_116 (by decide) ?_
          refine z_goto O 121 dX4_claimsIn_117 (by decide) ?_
          refine z_istore (lv' := [(0, _), (1, _), (2, _), (3, _), (4, _), (5, _), (6, _), (7, _), (8, _), (9, _)]) O dX4_claimsIn_121 (by decide) rfl ?_
          refine z_iload O dX4_claimsIn_123 rfl ?_
          refine z_iload O dX4_claimsIn_125 rfl ?_
          refine z_if_eqN O 146 dX4_claimsIn_127 (by decide) (by omega) (fun h127 => by omega) (fun h127 => ?_)
          refine z_iload_n O dX4_claimsIn_130 rfl ?_
          refine z_if_neN O 146 dX4_claimsIn_131 (by decide) (by omega) (fun h131 => ?_) (fun h131 => by omega)
          refine z_iconst O (nI 0) dX4_claimsIn_146 (by decide) ?_
          refine z_iaddN O dX4_claimsIn_147 ?_
          refine z_istore (lv' := [(0, _), (1, _), (2, _), (3, _), (4, _), (5, _), (6, _), (7, _), (8, _), (9, _)]) O dX4_claimsIn_148 (by decide) rfl ?_
          refine z_iload O dX4_claimsIn_150 rfl ?_
          refine z_if_eqN O 172 dX4_claimsIn_152 (by decide) (by omega) (fun h152 => by omega) (fun h152 => ?_)
          refine z_iload_n O dX4_claimsIn_155 rfl ?_
          refine z_iconst O (nI 3) dX4_claimsIn_156 (by decide) ?_
          refine z_icmp_neN O 172 dX4_claimsIn_157 (by decide) (by omega) (by omega) (fun h157 => ?_) (fun h157 => by omega)
          refine z_iload O dX4_claimsIn_172 rfl ?_
          refine z_istore (lv' := [(0, _), (1, _), (2, _), (3, _), (4, _), (5, _), (6, _), (7, _), (8, _), (9, _)]) O dX4_claimsIn_174 (by decide) rfl ?_
          refine z_iincN (lv' := [(0, _), (1, _), (2, _), (3, _), (4, _), (5, _), (6, _), (7, _), (8, _), (9, _)]) O 1 dX4_claimsIn_176 (by decide) rfl rfl (by decide) ?_
          refine z_goto O 54 dX4_claimsIn_179 (by decide) ?_
          refine z_kp (lv' := [(0, _), (1, _), (2, _), (3, _), (4, _), (5, _), (6, _)]) [0, 1, 2, 3, 4, 5, 6] rfl ?_
          exact ih
        · refine z_aload_n O dX4_claimsIn_81 rfl ?_
          refine z_get O dX4_claimsIn_82 flX4_7 (by rfl) (by rfl) ?_
          refine z_iload_n O dX4_claimsIn_85 rfl ?_
          refine z_iconst O (nI 0) dX4_claimsIn_86 (by decide) ?_
          refine z_iaddN O dX4_claimsIn_87 ?_
          refine z_ialdN O dX4_claimsIn_88 (by rfl) (by omega) (by decide) ?_
          refine z_top (v' := .int (nI (r 117))) (congrArg Value.int (congrArg nI h.1.1)) ?_
          refine z_aload_n O dX4_claimsIn_89 rfl ?_
          refine z_get O dX4_claimsIn_90 flX4_7 (by rfl) (by rfl) ?_
          refine z_iload O dX4_claimsIn_93 rfl ?_
          refine z_iconst O (nI 3) dX4_claimsIn_95 (by decide) ?_
          refine z_iaddN O dX4_claimsIn_96 ?_
          refine z_ialdN O dX4_claimsIn_97 (by rfl) (by omega) (by decide) ?_
          refine z_top (v' := .int (nI (fld r c p 3))) (congrArg Value.int (congrArg nI (h.1.2.2 c p 3 hc hp (by decide)))) ?_
          refine z_isubN O dX4_claimsIn_98 (hs c p hc hp) ?_
          refine z_iconst O (nI 1) dX4_claimsIn_99 (by decide) ?_
          refine z_iaddN O dX4_claimsIn_100 ?_
          refine z_istore (lv' := [(0, _), (1, _), (2, _), (3, _), (4, _), (5, _), (6, _), (7, _), (8, _)]) O dX4_claimsIn_101 (by decide) rfl ?_
          refine z_aload_n O dX4_claimsIn_103 rfl ?_
          refine z_get O dX4_claimsIn_104 flX4_7 (by rfl) (by rfl) ?_
          refine z_iload O dX4_claimsIn_107 rfl ?_
          refine z_iconst O (nI 1) dX4_claimsIn_109 (by decide) ?_
          refine z_iaddN O dX4_claimsIn_110 ?_
          refine z_ialdN O dX4_claimsIn_111 (by rfl) (by omega) (by decide) ?_
          refine z_top (v' := .int (nI (fld r c p 1))) (congrArg Value.int (congrArg nI (h.1.2.2 c p 1 hc hp (by decide)))) ?_
          refine z_iload_n O dX4_claimsIn_112 rfl ?_
          refine z_icmp_neN O 120 dX4_claimsIn_113 (by decide) (by have hx : fld r c p 1 < 1048576 := hr.1 _; omega) (by have hx : fld r c p 1 < 1048576 := hr.1 _; omega) (fun h113 => ?_) (fun h113 => by omega)
          refine z_iconst O (nI 0) dX4_claimsIn_120 (by decide) ?_
          refine z_istore (lv' := [(0, _), (1, _), (2, _), (3, _), (4, _), (5, _), (6, _), (7, _), (8, _), (9, _)]) O dX4_claimsIn_121 (by decide) rfl ?_
          refine z_iload O dX4_claimsIn_123 rfl ?_
          refine z_iload O dX4_claimsIn_125 rfl ?_
          refine z_if_eqN O 146 dX4_claimsIn_127 (by decide) (by omega) (fun h127 => ?_) (fun h127 => by omega)
          refine z_iconst O (nI 0) dX4_claimsIn_146 (by decide) ?_
          refine z_iaddN O dX4_claimsIn_147 ?_
          refine z_istore (lv' := [(0, _), (1, _), (2, _), (3, _), (4, _), (5, _), (6, _), (7, _), (8, _), (9, _)]) O dX4_claimsIn_148 (by decide) rfl ?_
          refine z_iload O dX4_claimsIn_150 rfl ?_
          refine z_if_eqN O 172 dX4_claimsIn_152 (by decide) (by omega) (fun h152 => ?_) (fun h152 => by omega)
          refine z_iload O dX4_claimsIn_172 rfl ?_
          refine z_istore (lv' := [(0, _), (1, _), (2, _), (3, _), (4, _), (5, _), (6, _), (7, _), (8, _), (9, _)]) O dX4_claimsIn_174 (by decide) rfl ?_
          refine z_iincN (lv' := [(0, _), (1, _), (2, _), (3, _), (4, _), (5, _), (6, _), (7, _), (8, _), (9, _)]) O 1 dX4_claimsIn_176 (by decide) rfl rfl (by decide) ?_
          refine z_goto O 54 dX4_claimsIn_179 (by decide) ?_
          refine z_kp (lv' := [(0, _), (1, _), (2, _), (3, _), (4, _), (5, _), (6, _)]) [0, 1, 2, 3, 4, 5, 6] rfl ?_
          exact ih
set_option maxRecDepth 20000 in
set_option maxHeartbeats 4000000 in
theorem m_claimsIn3 {b : Nat} {r we : Nat → Nat} {f : Nat} (h : RW w b r we) (hr : rowOK r) (hb : b ≤ 3420) (hs : sinceOK r) (hf : f < 3) : zS G 5 yX4_claimsIn cX4_claimsIn 10 (some .int) [.ref (zad (zb G) 21), .int (nI b), .int (nI f), .int (nI 3)] (yM G c0_ c1_ c2_ c3_ c4_ c5_ c6_ c7_ c8_ c9_ c10_ c11_ c12_ c13_ c14_ c15_ c16_ c17_ c18_ c19_ c20_ w kp tx txl rf ya yb at2 st2 iwd ifg nb fr la nms nd wf hh tl) 0 0 (zE (.int (nI (clm r 3 f))) (yM G c0_ c1_ c2_ c3_ c4_ c5_ c6_ c7_ c8_ c9_ c10_ c11_ c12_ c13_ c14_ c15_ c16_ c17_ c18_ c19_ c20_ w kp tx txl rf ya yb at2 st2 iwd ifg nb fr la nms nd wf hh tl)) := by
  refine zS.of (by decide) (Nat.le_of_ble_eq_true rfl) (fun F O hR1 hR2 => ?_)
  have O : zOk G F yX4_claimsIn cX4_claimsIn 10 (some .int) RX4 5 (yM G c0_ c1_ c2_ c3_ c4_ c5_ c6_ c7_ c8_ c9_ c10_ c11_ c12_ c13_ c14_ c15_ c16_ c17_ c18_ c19_ c20_ w kp tx txl rf ya yb at2 st2 iwd ifg nb fr la nms nd wf hh tl).length := O
  refine z_eq (lv' := [(0, _), (1, _), (2, _), (3, _)]) rfl rfl rfl ?_
  refine z_iload_n O dX4_claimsIn_0 rfl ?_
  refine z_iconst O (nI 2) dX4_claimsIn_1 (by decide) ?_
  refine z_icmp_neN O 12 dX4_claimsIn_2 (by decide) (by omega) (by omega) (fun h2 => ?_) (fun h2 => by omega)
  refine z_iconst O (nI 0) dX4_claimsIn_12 (by decide) ?_
  refine z_istore (lv' := [(0, _), (1, _), (2, _), (3, _), (4, _)]) O dX4_claimsIn_13 (by decide) rfl ?_
  refine z_iconst O (nI 0) dX4_claimsIn_15 (by decide) ?_
  refine z_istore (lv' := [(0, _), (1, _), (2, _), (3, _), (4, _), (5, _)]) O dX4_claimsIn_16 (by decide) rfl ?_
  refine zdown (P := fun c => Z G F 0 0 (zEnd G F (zE (.int (nI (clm r 3 f))) (yM G c0_ c1_ c2_ c3_ c4_ c5_ c6_ c7_ c8_ c9_ c10_ c11_ c12_ c13_ c14_ c15_ c16_ c17_ c18_ c19_ c20_ w kp tx txl rf ya yb at2 st2 iwd ifg nb fr la nms nd wf hh tl)) 0 0) 18 [(0, .ref (zad (zb G) 21)), (1, .int (nI b)), (2, .int (nI f)), (3, .int (nI 3)), (4, .int (nI (v3 r f c))), (5, .int (nI c))] [] (yM G c0_ c1_ c2_ c3_ c4_ c5_ c6_ c7_ c8_ c9_ c10_ c11_ c12_ c13_ c14_ c15_ c16_ c17_ c18_ c19_ c20_ w kp tx txl rf ya yb at2 st2 iwd ifg nb fr la nms nd wf hh tl)) (9) ?_ ?_ 
  · refine z_iload O dX4_claimsIn_18 rfl ?_
    refine z_bipush O (nI 9) dX4_claimsIn_20 (by decide) ?_
    refine z_icmp_geN O 188 dX4_claimsIn_22 (by decide) (by omega) (by omega) (fun h22 => ?_) (fun h22 => by omega)
    refine z_iload O dX4_claimsIn_188 rfl ?_
    exact z_iret O dX4_claimsIn_190 ⟨rfl, rfl⟩
  · intro c hc ih 
    refine z_iload O dX4_claimsIn_18 rfl ?_
    refine z_bipush O (nI 9) dX4_claimsIn_20 (by decide) ?_
    refine z_icmp_geN O 188 dX4_claimsIn_22 (by decide) (by omega) (by omega) (fun h22 => by omega) (fun h22 => ?_)
    refine z_iload O dX4_claimsIn_25 rfl ?_
    refine z_iload_n O dX4_claimsIn_27 rfl ?_
    refine z_iconst O (nI 1) dX4_claimsIn_28 (by decide) ?_
    refine z_icmp_neN O 47 dX4_claimsIn_29 (by decide) (by omega) (by omega) (fun h29 => ?_) (fun h29 => by omega)
    refine z_iconst O (nI 0) dX4_claimsIn_47 (by decide) ?_
    refine z_iaddN O dX4_claimsIn_48 ?_
    refine z_istore (lv' := [(0, _), (1, _), (2, _), (3, _), (4, _), (5, _)]) O dX4_claimsIn_49 (by decide) rfl ?_
    refine z_iconst O (nI 0) dX4_claimsIn_51 (by decide) ?_
    refine z_istore (lv' := [(0, _), (1, _), (2, _), (3, _), (4, _), (5, _), (6, _)]) O dX4_claimsIn_52 (by decide) rfl ?_
    refine zdown (P := fun p => Z G F 0 0 (zEnd G F (zE (.int (nI (clm r 3 f))) (yM G c0_ c1_ c2_ c3_ c4_ c5_ c6_ c7_ c8_ c9_ c10_ c11_ c12_ c13_ c14_ c15_ c16_ c17_ c18_ c19_ c20_ w kp tx txl rf ya yb at2 st2 iwd ifg nb fr la nms nd wf hh tl)) 0 0) 54 [(0, .ref (zad (zb G) 21)), (1, .int (nI b)), (2, .int (nI f)), (3, .int (nI 3)), (4, .int (nI (v3I r f c (v3 r f c) p))), (5, .int (nI c)), (6, .int (nI p))] [] (yM G c0_ c1_ c2_ c3_ c4_ c5_ c6_ c7_ c8_ c9_ c10_ c11_ c12_ c13_ c14_ c15_ c16_ c17_ c18_ c19_ c20_ w kp tx txl rf ya yb at2 st2 iwd ifg nb fr la nms nd wf hh tl)) (r (108 + c)) ?_ ?_ 
    · refine z_iload O dX4_claimsIn_54 rfl ?_
      refine z_aload_n O dX4_claimsIn_56 rfl ?_
      refine z_get O dX4_claimsIn_57 flX4_7 (by rfl) (by rfl) ?_
      refine z_iload_n O dX4_claimsIn_60 rfl ?_
      refine z_iconst O (nI 1) dX4_claimsIn_61 (by decide) ?_
      refine z_iaddN O dX4_claimsIn_62 ?_
      refine z_iload O dX4_claimsIn_63 rfl ?_
      refine z_iaddN O dX4_claimsIn_65 ?_
      refine z_ialdN O dX4_claimsIn_66 (by rfl) (by omega) (by decide) ?_
      refine z_top (v' := .int (nI (r (108 + c)))) (congrArg Value.int (congrArg nI (h.1.2.1 c hc))) ?_
      refine z_icmp_geN O 182 dX4_claimsIn_67 (by decide) (by have := hr.2 c hc; omega) (by have := hr.2 c hc; omega) (fun h67 => ?_) (fun h67 => by omega)
      refine z_iincN (lv' := [(0, _), (1, _), (2, _), (3, _), (4, _), (5, _), (6, _)]) O 1 dX4_claimsIn_182 (by decide) rfl rfl (by decide) ?_
      refine z_goto O 18 dX4_claimsIn_185 (by decide) ?_
      refine z_kp (lv' := [(0, _), (1, _), (2, _), (3, _), (4, _), (5, _)]) [0, 1, 2, 3, 4, 5] rfl ?_
      exact ih
    · intro p hp ih 
      have h3 := hr.2 c hc
      refine z_iload O dX4_claimsIn_54 rfl ?_
      refine z_aload_n O dX4_claimsIn_56 rfl ?_
      refine z_get O dX4_claimsIn_57 flX4_7 (by rfl) (by rfl) ?_
      refine z_iload_n O dX4_claimsIn_60 rfl ?_
      refine z_iconst O (nI 1) dX4_claimsIn_61 (by decide) ?_
      refine z_iaddN O dX4_claimsIn_62 ?_
      refine z_iload O dX4_claimsIn_63 rfl ?_
      refine z_iaddN O dX4_claimsIn_65 ?_
      refine z_ialdN O dX4_claimsIn_66 (by rfl) (by omega) (by decide) ?_
      refine z_top (v' := .int (nI (r (108 + c)))) (congrArg Value.int (congrArg nI (h.1.2.1 c hc))) ?_
      refine z_icmp_geN O 182 dX4_claimsIn_67 (by decide) (by have := hr.2 c hc; omega) (by have := hr.2 c hc; omega) (fun h67 => by omega) (fun h67 => ?_)
      refine z_iload_n O dX4_claimsIn_70 rfl ?_
      refine z_iload O dX4_claimsIn_71 rfl ?_
      refine z_iload O dX4_claimsIn_73 rfl ?_
      refine z_S2e0 O m_placeOf mX4_placeOf lkX4_59 dX4_claimsIn_75 (Nat.le_of_ble_eq_true rfl) (by decide) ?_
      refine z_iaddN O dX4_claimsIn_78 ?_
      refine z_istore (lv' := [(0, _), (1, _), (2, _), (3, _), (4, _), (5, _), (6, _), (7, _)]) O dX4_claimsIn_79 (by decide) rfl ?_
      by_cases ho : fld r c p 1 = f
      · refine z_aload_n O dX4_claimsIn_81 rfl ?_
        refine z_get O dX4_claimsIn_82 flX4_7 (by rfl) (by rfl) ?_
        refine z_iload_n O dX4_claimsIn_85 rfl ?_
        refine z_iconst O (nI 0) dX4_claimsIn_86 (by decide) ?_
        refine z_iaddN O dX4_claimsIn_87 ?_
        refine z_ialdN O dX4_claimsIn_88 (by rfl) (by omega) (by decide) ?_
        refine z_top (v' := .int (nI (r 117))) (congrArg Value.int (congrArg nI h.1.1)) ?_
        refine z_aload_n O dX4_claimsIn_89 rfl ?_
        refine z_get O dX4_claimsIn_90 flX4_7 (by rfl) (by rfl) ?_
        refine z_iload O dX4_claimsIn_93 rfl ?_
        refine z_iconst O (nI 3) dX4_claimsIn_95 (by decide) ?_
        refine z_iaddN O dX4_claimsIn_96 ?_
        refine z_ialdN O dX4_claimsIn_97 (by rfl) (by omega) (by decide) ?_
        refine z_top (v' := .int (nI (fld r c p 3))) (congrArg Value.int (congrArg nI (h.1.2.2 c p 3 hc hp (by decide)))) ?_
        refine z_isubN O dX4_claimsIn_98 (hs c p hc hp) ?_
        refine z_iconst O (nI 1) dX4_claimsIn_99 (by decide) ?_
        refine z_iaddN O dX4_claimsIn_100 ?_
        refine z_istore (lv' := [(0, _), (1, _), (2, _), (3, _), (4, _), (5, _), (6, _), (7, _), (8, _)]) O dX4_claimsIn_101 (by decide) rfl ?_
        refine z_aload_n O dX4_claimsIn_103 rfl ?_
        refine z_get O dX4_claimsIn_104 flX4_7 (by rfl) (by rfl) ?_
        refine z_iload O dX4_claimsIn_107 rfl ?_
        refine z_iconst O (nI 1) dX4_claimsIn_109 (by decide) ?_
        refine z_iaddN O dX4_claimsIn_110 ?_
        refine z_ialdN O dX4_claimsIn_111 (by rfl) (by omega) (by decide) ?_
        refine z_top (v' := .int (nI (fld r c p 1))) (congrArg Value.int (congrArg nI (h.1.2.2 c p 1 hc hp (by decide)))) ?_
        refine z_iload_n O dX4_claimsIn_112 rfl ?_
        refine z_icmp_neN O 120 dX4_claimsIn_113 (by decide) (by have hx : fld r c p 1 < 1048576 := hr.1 _; omega) (by have hx : fld r c p 1 < 1048576 := hr.1 _; omega) (fun h113 => by omega) (fun h113 => ?_)
        refine z_iconst O (nI 1) dX4_claimsIn_116 (by decide) ?_
        refine z_goto O 121 dX4_claimsIn_117 (by decide) ?_
        refine z_istore (lv' := [(0, _), (1, _), (2, _), (3, _), (4, _), (5, _), (6, _), (7, _), (8, _), (9, _)]) O dX4_claimsIn_121 (by decide) rfl ?_
        refine z_iload O dX4_claimsIn_123 rfl ?_
        refine z_iload O dX4_claimsIn_125 rfl ?_
        refine z_if_eqN O 146 dX4_claimsIn_127 (by decide) (by omega) (fun h127 => by omega) (fun h127 => ?_)
        refine z_iload_n O dX4_claimsIn_130 rfl ?_
        refine z_if_neN O 146 dX4_claimsIn_131 (by decide) (by omega) (fun h131 => ?_) (fun h131 => by omega)
        refine z_iconst O (nI 0) dX4_claimsIn_146 (by decide) ?_
        refine z_iaddN O dX4_claimsIn_147 ?_
        refine z_istore (lv' := [(0, _), (1, _), (2, _), (3, _), (4, _), (5, _), (6, _), (7, _), (8, _), (9, _)]) O dX4_claimsIn_148 (by decide) rfl ?_
        refine z_iload O dX4_claimsIn_150 rfl ?_
        refine z_if_eqN O 172 dX4_claimsIn_152 (by decide) (by omega) (fun h152 => by omega) (fun h152 => ?_)
        refine z_iload_n O dX4_claimsIn_155 rfl ?_
        refine z_iconst O (nI 3) dX4_claimsIn_156 (by decide) ?_
        refine z_icmp_neN O 172 dX4_claimsIn_157 (by decide) (by omega) (by omega) (fun h157 => by omega) (fun h157 => ?_)
        refine z_iload O dX4_claimsIn_160 rfl ?_
        refine z_iload O dX4_claimsIn_162 rfl ?_
        refine z_icmp_leN O 172 dX4_claimsIn_164 (by decide) (by have hv := v3I_lt hr f c _ (v3_lt hr f c) p; have hy := hr.1 117; omega) (by have hv := v3I_lt hr f c _ (v3_lt hr f c) p; have hy := hr.1 117; omega) (fun h164 => ?_) (fun h164 => ?_)
        · refine z_iload O dX4_claimsIn_172 rfl ?_
          refine z_istore (lv' := [(0, _), (1, _), (2, _), (3, _), (4, _), (5, _), (6, _), (7, _), (8, _), (9, _)]) O dX4_claimsIn_174 (by decide) rfl ?_
          refine z_iincN (lv' := [(0, _), (1, _), (2, _), (3, _), (4, _), (5, _), (6, _), (7, _), (8, _), (9, _)]) O 1 dX4_claimsIn_176 (by decide) rfl rfl (by decide) ?_
          refine z_goto O 54 dX4_claimsIn_179 (by decide) ?_
          refine z_kp (lv' := [(0, _), (1, _), (2, _), (3, _), (4, _), (5, _), (6, _)]) [0, 1, 2, 3, 4, 5, 6] rfl ?_
          first | (rw [show v3I r f c (v3 r f c) (p + 1) = v3I r f c (v3 r f c) p from (if_pos ho).trans (Nat.max_eq_left (show ageN r c p ≤ _ by unfold ageN; omega))] at ih; exact ih) | (rw [show v3I r f c (v3 r f c) (p + 1) = ageN r c p from (if_pos ho).trans (Nat.max_eq_right (show _ ≤ ageN r c p by unfold ageN; omega))] at ih; exact ih)
        · refine z_iload O dX4_claimsIn_167 rfl ?_
          refine z_goto O 174 dX4_claimsIn_169 (by decide) ?_
          refine z_istore (lv' := [(0, _), (1, _), (2, _), (3, _), (4, _), (5, _), (6, _), (7, _), (8, _), (9, _)]) O dX4_claimsIn_174 (by decide) rfl ?_
          refine z_iincN (lv' := [(0, _), (1, _), (2, _), (3, _), (4, _), (5, _), (6, _), (7, _), (8, _), (9, _)]) O 1 dX4_claimsIn_176 (by decide) rfl rfl (by decide) ?_
          refine z_goto O 54 dX4_claimsIn_179 (by decide) ?_
          refine z_kp (lv' := [(0, _), (1, _), (2, _), (3, _), (4, _), (5, _), (6, _)]) [0, 1, 2, 3, 4, 5, 6] rfl ?_
          first | (rw [show v3I r f c (v3 r f c) (p + 1) = v3I r f c (v3 r f c) p from (if_pos ho).trans (Nat.max_eq_left (show ageN r c p ≤ _ by unfold ageN; omega))] at ih; exact ih) | (rw [show v3I r f c (v3 r f c) (p + 1) = ageN r c p from (if_pos ho).trans (Nat.max_eq_right (show _ ≤ ageN r c p by unfold ageN; omega))] at ih; exact ih)
      · refine z_aload_n O dX4_claimsIn_81 rfl ?_
        refine z_get O dX4_claimsIn_82 flX4_7 (by rfl) (by rfl) ?_
        refine z_iload_n O dX4_claimsIn_85 rfl ?_
        refine z_iconst O (nI 0) dX4_claimsIn_86 (by decide) ?_
        refine z_iaddN O dX4_claimsIn_87 ?_
        refine z_ialdN O dX4_claimsIn_88 (by rfl) (by omega) (by decide) ?_
        refine z_top (v' := .int (nI (r 117))) (congrArg Value.int (congrArg nI h.1.1)) ?_
        refine z_aload_n O dX4_claimsIn_89 rfl ?_
        refine z_get O dX4_claimsIn_90 flX4_7 (by rfl) (by rfl) ?_
        refine z_iload O dX4_claimsIn_93 rfl ?_
        refine z_iconst O (nI 3) dX4_claimsIn_95 (by decide) ?_
        refine z_iaddN O dX4_claimsIn_96 ?_
        refine z_ialdN O dX4_claimsIn_97 (by rfl) (by omega) (by decide) ?_
        refine z_top (v' := .int (nI (fld r c p 3))) (congrArg Value.int (congrArg nI (h.1.2.2 c p 3 hc hp (by decide)))) ?_
        refine z_isubN O dX4_claimsIn_98 (hs c p hc hp) ?_
        refine z_iconst O (nI 1) dX4_claimsIn_99 (by decide) ?_
        refine z_iaddN O dX4_claimsIn_100 ?_
        refine z_istore (lv' := [(0, _), (1, _), (2, _), (3, _), (4, _), (5, _), (6, _), (7, _), (8, _)]) O dX4_claimsIn_101 (by decide) rfl ?_
        refine z_aload_n O dX4_claimsIn_103 rfl ?_
        refine z_get O dX4_claimsIn_104 flX4_7 (by rfl) (by rfl) ?_
        refine z_iload O dX4_claimsIn_107 rfl ?_
        refine z_iconst O (nI 1) dX4_claimsIn_109 (by decide) ?_
        refine z_iaddN O dX4_claimsIn_110 ?_
        refine z_ialdN O dX4_claimsIn_111 (by rfl) (by omega) (by decide) ?_
        refine z_top (v' := .int (nI (fld r c p 1))) (congrArg Value.int (congrArg nI (h.1.2.2 c p 1 hc hp (by decide)))) ?_
        refine z_iload_n O dX4_claimsIn_112 rfl ?_
        refine z_icmp_neN O 120 dX4_claimsIn_113 (by decide) (by have hx : fld r c p 1 < 1048576 := hr.1 _; omega) (by have hx : fld r c p 1 < 1048576 := hr.1 _; omega) (fun h113 => ?_) (fun h113 => by omega)
        refine z_iconst O (nI 0) dX4_claimsIn_120 (by decide) ?_
        refine z_istore (lv' := [(0, _), (1, _), (2, _), (3, _), (4, _), (5, _), (6, _), (7, _), (8, _), (9, _)]) O dX4_claimsIn_121 (by decide) rfl ?_
        refine z_iload O dX4_claimsIn_123 rfl ?_
        refine z_iload O dX4_claimsIn_125 rfl ?_
        refine z_if_eqN O 146 dX4_claimsIn_127 (by decide) (by omega) (fun h127 => ?_) (fun h127 => by omega)
        refine z_iconst O (nI 0) dX4_claimsIn_146 (by decide) ?_
        refine z_iaddN O dX4_claimsIn_147 ?_
        refine z_istore (lv' := [(0, _), (1, _), (2, _), (3, _), (4, _), (5, _), (6, _), (7, _), (8, _), (9, _)]) O dX4_claimsIn_148 (by decide) rfl ?_
        refine z_iload O dX4_claimsIn_150 rfl ?_
        refine z_if_eqN O 172 dX4_claimsIn_152 (by decide) (by omega) (fun h152 => ?_) (fun h152 => by omega)
        refine z_iload O dX4_claimsIn_172 rfl ?_
        refine z_istore (lv' := [(0, _), (1, _), (2, _), (3, _), (4, _), (5, _), (6, _), (7, _), (8, _), (9, _)]) O dX4_claimsIn_174 (by decide) rfl ?_
        refine z_iincN (lv' := [(0, _), (1, _), (2, _), (3, _), (4, _), (5, _), (6, _), (7, _), (8, _), (9, _)]) O 1 dX4_claimsIn_176 (by decide) rfl rfl (by decide) ?_
        refine z_goto O 54 dX4_claimsIn_179 (by decide) ?_
        refine z_kp (lv' := [(0, _), (1, _), (2, _), (3, _), (4, _), (5, _), (6, _)]) [0, 1, 2, 3, 4, 5, 6] rfl ?_
        rw [show v3I r f c (v3 r f c) (p + 1) = v3I r f c (v3 r f c) p from if_neg ho] at ih
        exact ih
theorem m_claimsIn {b : Nat} {r we : Nat → Nat} {f l : Nat} (h : RW w b r we) (hr : rowOK r) (hb : b ≤ 3420) (hs : sinceOK r) (hf : f < 3) (hl : l < 4) : zS G 5 yX4_claimsIn cX4_claimsIn 10 (some .int) [.ref (zad (zb G) 21), .int (nI b), .int (nI f), .int (nI l)] (yM G c0_ c1_ c2_ c3_ c4_ c5_ c6_ c7_ c8_ c9_ c10_ c11_ c12_ c13_ c14_ c15_ c16_ c17_ c18_ c19_ c20_ w kp tx txl rf ya yb at2 st2 iwd ifg nb fr la nms nd wf hh tl) 0 0 (zE (.int (nI (clm r l f))) (yM G c0_ c1_ c2_ c3_ c4_ c5_ c6_ c7_ c8_ c9_ c10_ c11_ c12_ c13_ c14_ c15_ c16_ c17_ c18_ c19_ c20_ w kp tx txl rf ya yb at2 st2 iwd ifg nb fr la nms nd wf hh tl)) := by
  rcases (show l = 0 ∨ l = 1 ∨ l = 2 ∨ l = 3 by omega) with rfl | rfl | rfl | rfl
  · exact m_claimsIn0 h hr hb hs hf
  · exact m_claimsIn1 h hr hb hs hf
  · exact m_claimsIn2 h hr hb hf
  · exact m_claimsIn3 h hr hb hs hf
set_option maxRecDepth 20000 in
set_option maxHeartbeats 4000000 in
theorem m_allClaims {b : Nat} {r we : Nat → Nat} {l : Nat} (h : RW w b r we) (hr : rowOK r) (hb : b ≤ 3420) (hs : sinceOK r) (hl : l < 4) : zS G 6 yX4_allClaims cX4_allClaims 3 (some .int) [.ref (zad (zb G) 21), .int (nI b), .int (nI l)] (yM G c0_ c1_ c2_ c3_ c4_ c5_ c6_ c7_ c8_ c9_ c10_ c11_ c12_ c13_ c14_ c15_ c16_ c17_ c18_ c19_ c20_ w kp tx txl rf ya yb at2 st2 iwd ifg nb fr la nms nd wf hh tl) 0 0 (zE (.int (nI (clAll r l))) (yM G c0_ c1_ c2_ c3_ c4_ c5_ c6_ c7_ c8_ c9_ c10_ c11_ c12_ c13_ c14_ c15_ c16_ c17_ c18_ c19_ c20_ w kp tx txl rf ya yb at2 st2 iwd ifg nb fr la nms nd wf hh tl)) := by
  refine zS.of (by decide) (Nat.le_of_ble_eq_true rfl) (fun F O hR1 hR2 => ?_)
  have O : zOk G F yX4_allClaims cX4_allClaims 3 (some .int) RX4 6 (yM G c0_ c1_ c2_ c3_ c4_ c5_ c6_ c7_ c8_ c9_ c10_ c11_ c12_ c13_ c14_ c15_ c16_ c17_ c18_ c19_ c20_ w kp tx txl rf ya yb at2 st2 iwd ifg nb fr la nms nd wf hh tl).length := O
  refine z_eq (lv' := [(0, _), (1, _), (2, _)]) rfl rfl rfl ?_
  refine z_aload_n O dX4_allClaims_0 rfl ?_
  refine z_iload_n O dX4_allClaims_1 rfl ?_
  refine z_iconst O (nI 0) dX4_allClaims_2 (by decide) ?_
  refine z_iload_n O dX4_allClaims_3 rfl ?_
  refine z_V3e0 O (m_claimsIn h hr hb hs (by decide) hl) mX4_claimsIn lkX4_173 rfl (by rfl) dX4_allClaims_4 (Nat.le_of_ble_eq_true rfl) (by decide) ?_
  refine z_aload_n O dX4_allClaims_7 rfl ?_
  refine z_iload_n O dX4_allClaims_8 rfl ?_
  refine z_iconst O (nI 1) dX4_allClaims_9 (by decide) ?_
  refine z_iload_n O dX4_allClaims_10 rfl ?_
  refine z_V3e0 O (m_claimsIn h hr hb hs (by decide) hl) mX4_claimsIn lkX4_173 rfl (by rfl) dX4_allClaims_11 (Nat.le_of_ble_eq_true rfl) (by decide) ?_
  refine z_iaddN O dX4_allClaims_14 ?_
  refine z_aload_n O dX4_allClaims_15 rfl ?_
  refine z_iload_n O dX4_allClaims_16 rfl ?_
  refine z_iconst O (nI 2) dX4_allClaims_17 (by decide) ?_
  refine z_iload_n O dX4_allClaims_18 rfl ?_
  refine z_V3e0 O (m_claimsIn h hr hb hs (by decide) hl) mX4_claimsIn lkX4_173 rfl (by rfl) dX4_allClaims_19 (Nat.le_of_ble_eq_true rfl) (by decide) ?_
  refine z_iaddN O dX4_allClaims_22 ?_
  exact z_iret O dX4_allClaims_23 ⟨rfl, rfl⟩
set_option maxRecDepth 20000 in
set_option maxHeartbeats 4000000 in
theorem m_ownerIn {b : Nat} {r we : Nat → Nat} {l : Nat} (h : RW w b r we) (hr : rowOK r) (hb : b ≤ 3420) (hs : sinceOK r) (hl : l < 4) : zS G 6 yX4_ownerIn cX4_ownerIn 8 (some .int) [.ref (zad (zb G) 21), .int (nI b), .int (nI l)] (yM G c0_ c1_ c2_ c3_ c4_ c5_ c6_ c7_ c8_ c9_ c10_ c11_ c12_ c13_ c14_ c15_ c16_ c17_ c18_ c19_ c20_ w kp tx txl rf ya yb at2 st2 iwd ifg nb fr la nms nd wf hh tl) 0 0 (zE (.int (optI (ownS (clm r l) 3).1)) (yM G c0_ c1_ c2_ c3_ c4_ c5_ c6_ c7_ c8_ c9_ c10_ c11_ c12_ c13_ c14_ c15_ c16_ c17_ c18_ c19_ c20_ w kp tx txl rf ya yb at2 st2 iwd ifg nb fr la nms nd wf hh tl)) := by
  refine zS.of (by decide) (Nat.le_of_ble_eq_true rfl) (fun F O hR1 hR2 => ?_)
  have O : zOk G F yX4_ownerIn cX4_ownerIn 8 (some .int) RX4 6 (yM G c0_ c1_ c2_ c3_ c4_ c5_ c6_ c7_ c8_ c9_ c10_ c11_ c12_ c13_ c14_ c15_ c16_ c17_ c18_ c19_ c20_ w kp tx txl rf ya yb at2 st2 iwd ifg nb fr la nms nd wf hh tl).length := O
  refine z_eq (lv' := [(0, _), (1, _), (2, _)]) rfl rfl rfl ?_
  refine z_iconst O (nI 0) dX4_ownerIn_0 (by decide) ?_
  refine z_istore_n (lv' := [(0, _), (1, _), (2, _), (3, _)]) O dX4_ownerIn_1 (by decide) rfl ?_
  refine z_iconst O (nI 0) dX4_ownerIn_2 (by decide) ?_
  refine z_istore (lv' := [(0, _), (1, _), (2, _), (3, _), (4, _)]) O dX4_ownerIn_3 (by decide) rfl ?_
  refine z_iconst O (nI 1) dX4_ownerIn_5 (by decide) ?_
  refine z_istore (lv' := [(0, _), (1, _), (2, _), (3, _), (4, _), (5, _)]) O dX4_ownerIn_6 (by decide) rfl ?_
  refine z_iconst O (nI 0) dX4_ownerIn_8 (by decide) ?_
  refine z_istore (lv' := [(0, _), (1, _), (2, _), (3, _), (4, _), (5, _), (6, _)]) O dX4_ownerIn_9 (by decide) rfl ?_
  refine zdown (P := fun f => ∀ bs : Nat, (∀ g, (ownS (clm r l) f).1 = some g → bs = g) → Z G F 0 0 (zEnd G F (zE (.int (optI (ownS (clm r l) 3).1)) (yM G c0_ c1_ c2_ c3_ c4_ c5_ c6_ c7_ c8_ c9_ c10_ c11_ c12_ c13_ c14_ c15_ c16_ c17_ c18_ c19_ c20_ w kp tx txl rf ya yb at2 st2 iwd ifg nb fr la nms nd wf hh tl)) 0 0) 11 [(0, .ref (zad (zb G) 21)), (1, .int (nI b)), (2, .int (nI l)), (3, .int (nI bs)), (4, .int (nI (ownS (clm r l) f).2)), (5, .int (bI ((ownS (clm r l) f).1 = none))), (6, .int (nI f))] [] (yM G c0_ c1_ c2_ c3_ c4_ c5_ c6_ c7_ c8_ c9_ c10_ c11_ c12_ c13_ c14_ c15_ c16_ c17_ c18_ c19_ c20_ w kp tx txl rf ya yb at2 st2 iwd ifg nb fr la nms nd wf hh tl)) (3) ?_ ?_ 0 (fun g hg => by cases hg)
  · intro bs hbs
    refine z_iload O dX4_ownerIn_11 rfl ?_
    refine z_iconst O (nI 3) dX4_ownerIn_13 (by decide) ?_
    refine z_icmp_geN O 89 dX4_ownerIn_14 (by decide) (by omega) (by omega) (fun h14 => ?_) (fun h14 => by omega)
    refine z_iload O dX4_ownerIn_89 rfl ?_
    refine z_if_eqB O 98 dX4_ownerIn_91 (by decide) (fun h91 => ?_) (fun h91 => ?_)
    · refine z_iload_n O dX4_ownerIn_98 rfl ?_
      exact z_iret O dX4_ownerIn_99 (by first
          | (refine ⟨?_, rfl⟩; rw [h91]; rfl)
          | (refine ⟨?_, rfl⟩; cases hx : (ownS (clm r l) 3).1 with
             | none => exact absurd hx h91
             | some g => rw [hbs g hx]; rfl))
    · refine z_iconst O (-1) dX4_ownerIn_94 (by decide) ?_
      refine z_goto O 99 dX4_ownerIn_95 (by decide) ?_
      exact z_iret O dX4_ownerIn_99 (by first
          | (refine ⟨?_, rfl⟩; rw [h91]; rfl)
          | (refine ⟨?_, rfl⟩; cases hx : (ownS (clm r l) 3).1 with
             | none => exact absurd hx h91
             | some g => rw [hbs g hx]; rfl))
  · intro f hf ih bs hbs
    refine z_iload O dX4_ownerIn_11 rfl ?_
    refine z_iconst O (nI 3) dX4_ownerIn_13 (by decide) ?_
    refine z_icmp_geN O 89 dX4_ownerIn_14 (by decide) (by omega) (by omega) (fun h14 => by omega) (fun h14 => ?_)
    refine z_aload_n O dX4_ownerIn_17 rfl ?_
    refine z_iload_n O dX4_ownerIn_18 rfl ?_
    refine z_iload O dX4_ownerIn_19 rfl ?_
    refine z_iload_n O dX4_ownerIn_21 rfl ?_
    refine z_V3e0 O (m_claimsIn h hr hb hs hf hl) mX4_claimsIn lkX4_173 rfl (by rfl) dX4_ownerIn_22 (Nat.le_of_ble_eq_true rfl) (by decide) ?_
    refine z_istore (lv' := [(0, _), (1, _), (2, _), (3, _), (4, _), (5, _), (6, _), (7, _)]) O dX4_ownerIn_25 (by decide) rfl ?_
    rcases Nat.lt_trichotomy (clm r l f) (ownS (clm r l) f).2 with hlt | heq | hgt
    · refine z_iload O dX4_ownerIn_27 rfl ?_
      refine z_iload O dX4_ownerIn_29 rfl ?_
      refine z_icmp_eqN O 46 dX4_ownerIn_31 (by decide) (by have := clm_lt hr l f; have := ownS_lt hr l f; omega) (by have := clm_lt hr l f; have := ownS_lt hr l f; omega) (fun h31 => by omega) (fun h31 => ?_)
      refine z_iload O dX4_ownerIn_34 rfl ?_
      refine z_if_eqB O 50 dX4_ownerIn_36 (by decide) (fun h36 => ?_) (fun h36 => ?_)
      · refine z_iconst O (nI 0) dX4_ownerIn_50 (by decide) ?_
        refine z_istore (lv' := [(0, _), (1, _), (2, _), (3, _), (4, _), (5, _), (6, _), (7, _)]) O dX4_ownerIn_51 (by decide) rfl ?_
        refine z_iload O dX4_ownerIn_53 rfl ?_
        refine z_iload O dX4_ownerIn_55 rfl ?_
        refine z_icmp_leN O 65 dX4_ownerIn_57 (by decide) (by have := clm_lt hr l f; have := ownS_lt hr l f; omega) (by have := clm_lt hr l f; have := ownS_lt hr l f; omega) (fun h57 => ?_) (fun h57 => by omega)
        refine z_iload_n O dX4_ownerIn_65 rfl ?_
        refine z_istore_n (lv' := [(0, _), (1, _), (2, _), (3, _), (4, _), (5, _), (6, _), (7, _)]) O dX4_ownerIn_66 (by decide) rfl ?_
        refine z_iload O dX4_ownerIn_67 rfl ?_
        refine z_iload O dX4_ownerIn_69 rfl ?_
        refine z_icmp_leN O 79 dX4_ownerIn_71 (by decide) (by have := clm_lt hr l f; have := ownS_lt hr l f; omega) (by have := clm_lt hr l f; have := ownS_lt hr l f; omega) (fun h71 => ?_) (fun h71 => by omega)
        refine z_iload O dX4_ownerIn_79 rfl ?_
        refine z_istore (lv' := [(0, _), (1, _), (2, _), (3, _), (4, _), (5, _), (6, _), (7, _)]) O dX4_ownerIn_81 (by decide) rfl ?_
        refine z_iincN (lv' := [(0, _), (1, _), (2, _), (3, _), (4, _), (5, _), (6, _), (7, _)]) O 1 dX4_ownerIn_83 (by decide) rfl rfl (by decide) ?_
        refine z_goto O 11 dX4_ownerIn_86 (by decide) ?_
        refine z_kp (lv' := [(0, _), (1, _), (2, _), (3, _), (4, _), (5, _), (6, _)]) [0, 1, 2, 3, 4, 5, 6] rfl ?_
        rw [show ownS (clm r l) (f + 1) = (ownS (clm r l) f) from (if_neg (by omega)).trans (if_neg (by omega))] at ih
        first | (have hq := ih bs hbs; rw [bI_t h36] at hq; exact hq) | (have hq := ih bs hbs; rw [bI_f h36] at hq; exact hq)
      · refine z_iload O dX4_ownerIn_39 rfl ?_
        refine z_iload O dX4_ownerIn_41 rfl ?_
        refine z_icmp_geN O 50 dX4_ownerIn_43 (by decide) (by have := clm_lt hr l f; have := ownS_lt hr l f; omega) (by have := clm_lt hr l f; have := ownS_lt hr l f; omega) (fun h43 => by omega) (fun h43 => ?_)
        refine z_iconst O (nI 1) dX4_ownerIn_46 (by decide) ?_
        refine z_goto O 51 dX4_ownerIn_47 (by decide) ?_
        refine z_istore (lv' := [(0, _), (1, _), (2, _), (3, _), (4, _), (5, _), (6, _), (7, _)]) O dX4_ownerIn_51 (by decide) rfl ?_
        refine z_iload O dX4_ownerIn_53 rfl ?_
        refine z_iload O dX4_ownerIn_55 rfl ?_
        refine z_icmp_leN O 65 dX4_ownerIn_57 (by decide) (by have := clm_lt hr l f; have := ownS_lt hr l f; omega) (by have := clm_lt hr l f; have := ownS_lt hr l f; omega) (fun h57 => ?_) (fun h57 => by omega)
        refine z_iload_n O dX4_ownerIn_65 rfl ?_
        refine z_istore_n (lv' := [(0, _), (1, _), (2, _), (3, _), (4, _), (5, _), (6, _), (7, _)]) O dX4_ownerIn_66 (by decide) rfl ?_
        refine z_iload O dX4_ownerIn_67 rfl ?_
        refine z_iload O dX4_ownerIn_69 rfl ?_
        refine z_icmp_leN O 79 dX4_ownerIn_71 (by decide) (by have := clm_lt hr l f; have := ownS_lt hr l f; omega) (by have := clm_lt hr l f; have := ownS_lt hr l f; omega) (fun h71 => ?_) (fun h71 => by omega)
        refine z_iload O dX4_ownerIn_79 rfl ?_
        refine z_istore (lv' := [(0, _), (1, _), (2, _), (3, _), (4, _), (5, _), (6, _), (7, _)]) O dX4_ownerIn_81 (by decide) rfl ?_
        refine z_iincN (lv' := [(0, _), (1, _), (2, _), (3, _), (4, _), (5, _), (6, _), (7, _)]) O 1 dX4_ownerIn_83 (by decide) rfl rfl (by decide) ?_
        refine z_goto O 11 dX4_ownerIn_86 (by decide) ?_
        refine z_kp (lv' := [(0, _), (1, _), (2, _), (3, _), (4, _), (5, _), (6, _)]) [0, 1, 2, 3, 4, 5, 6] rfl ?_
        rw [show ownS (clm r l) (f + 1) = (ownS (clm r l) f) from (if_neg (by omega)).trans (if_neg (by omega))] at ih
        first | (have hq := ih bs hbs; rw [bI_t h36] at hq; exact hq) | (have hq := ih bs hbs; rw [bI_f h36] at hq; exact hq)
    · refine z_iload O dX4_ownerIn_27 rfl ?_
      refine z_iload O dX4_ownerIn_29 rfl ?_
      refine z_icmp_eqN O 46 dX4_ownerIn_31 (by decide) (by have := clm_lt hr l f; have := ownS_lt hr l f; omega) (by have := clm_lt hr l f; have := ownS_lt hr l f; omega) (fun h31 => ?_) (fun h31 => by omega)
      refine z_iconst O (nI 1) dX4_ownerIn_46 (by decide) ?_
      refine z_goto O 51 dX4_ownerIn_47 (by decide) ?_
      refine z_istore (lv' := [(0, _), (1, _), (2, _), (3, _), (4, _), (5, _), (6, _), (7, _)]) O dX4_ownerIn_51 (by decide) rfl ?_
      refine z_iload O dX4_ownerIn_53 rfl ?_
      refine z_iload O dX4_ownerIn_55 rfl ?_
      refine z_icmp_leN O 65 dX4_ownerIn_57 (by decide) (by have := clm_lt hr l f; have := ownS_lt hr l f; omega) (by have := clm_lt hr l f; have := ownS_lt hr l f; omega) (fun h57 => ?_) (fun h57 => by omega)
      refine z_iload_n O dX4_ownerIn_65 rfl ?_
      refine z_istore_n (lv' := [(0, _), (1, _), (2, _), (3, _), (4, _), (5, _), (6, _), (7, _)]) O dX4_ownerIn_66 (by decide) rfl ?_
      refine z_iload O dX4_ownerIn_67 rfl ?_
      refine z_iload O dX4_ownerIn_69 rfl ?_
      refine z_icmp_leN O 79 dX4_ownerIn_71 (by decide) (by have := clm_lt hr l f; have := ownS_lt hr l f; omega) (by have := clm_lt hr l f; have := ownS_lt hr l f; omega) (fun h71 => ?_) (fun h71 => by omega)
      refine z_iload O dX4_ownerIn_79 rfl ?_
      refine z_istore (lv' := [(0, _), (1, _), (2, _), (3, _), (4, _), (5, _), (6, _), (7, _)]) O dX4_ownerIn_81 (by decide) rfl ?_
      refine z_iincN (lv' := [(0, _), (1, _), (2, _), (3, _), (4, _), (5, _), (6, _), (7, _)]) O 1 dX4_ownerIn_83 (by decide) rfl rfl (by decide) ?_
      refine z_goto O 11 dX4_ownerIn_86 (by decide) ?_
      refine z_kp (lv' := [(0, _), (1, _), (2, _), (3, _), (4, _), (5, _), (6, _)]) [0, 1, 2, 3, 4, 5, 6] rfl ?_
      rw [show ownS (clm r l) (f + 1) = (none, (ownS (clm r l) f).2) from (if_neg (by omega)).trans (if_pos heq)] at ih
      have hq := ih bs (fun g hg => by cases hg)
      rw [bI_t rfl] at hq
      exact hq
    · refine z_iload O dX4_ownerIn_27 rfl ?_
      refine z_iload O dX4_ownerIn_29 rfl ?_
      refine z_icmp_eqN O 46 dX4_ownerIn_31 (by decide) (by have := clm_lt hr l f; have := ownS_lt hr l f; omega) (by have := clm_lt hr l f; have := ownS_lt hr l f; omega) (fun h31 => by omega) (fun h31 => ?_)
      refine z_iload O dX4_ownerIn_34 rfl ?_
      refine z_if_eqB O 50 dX4_ownerIn_36 (by decide) (fun h36 => ?_) (fun h36 => ?_)
      · refine z_iconst O (nI 0) dX4_ownerIn_50 (by decide) ?_
        refine z_istore (lv' := [(0, _), (1, _), (2, _), (3, _), (4, _), (5, _), (6, _), (7, _)]) O dX4_ownerIn_51 (by decide) rfl ?_
        refine z_iload O dX4_ownerIn_53 rfl ?_
        refine z_iload O dX4_ownerIn_55 rfl ?_
        refine z_icmp_leN O 65 dX4_ownerIn_57 (by decide) (by have := clm_lt hr l f; have := ownS_lt hr l f; omega) (by have := clm_lt hr l f; have := ownS_lt hr l f; omega) (fun h57 => by omega) (fun h57 => ?_)
        refine z_iload O dX4_ownerIn_60 rfl ?_
        refine z_goto O 66 dX4_ownerIn_62 (by decide) ?_
        refine z_istore_n (lv' := [(0, _), (1, _), (2, _), (3, _), (4, _), (5, _), (6, _), (7, _)]) O dX4_ownerIn_66 (by decide) rfl ?_
        refine z_iload O dX4_ownerIn_67 rfl ?_
        refine z_iload O dX4_ownerIn_69 rfl ?_
        refine z_icmp_leN O 79 dX4_ownerIn_71 (by decide) (by have := clm_lt hr l f; have := ownS_lt hr l f; omega) (by have := clm_lt hr l f; have := ownS_lt hr l f; omega) (fun h71 => by omega) (fun h71 => ?_)
        refine z_iload O dX4_ownerIn_74 rfl ?_
        refine z_goto O 81 dX4_ownerIn_76 (by decide) ?_
        refine z_istore (lv' := [(0, _), (1, _), (2, _), (3, _), (4, _), (5, _), (6, _), (7, _)]) O dX4_ownerIn_81 (by decide) rfl ?_
        refine z_iincN (lv' := [(0, _), (1, _), (2, _), (3, _), (4, _), (5, _), (6, _), (7, _)]) O 1 dX4_ownerIn_83 (by decide) rfl rfl (by decide) ?_
        refine z_goto O 11 dX4_ownerIn_86 (by decide) ?_
        refine z_kp (lv' := [(0, _), (1, _), (2, _), (3, _), (4, _), (5, _), (6, _)]) [0, 1, 2, 3, 4, 5, 6] rfl ?_
        rw [show ownS (clm r l) (f + 1) = (some f, clm r l f) from if_pos hgt] at ih
        have hq := ih f (fun g hg => by cases hg; rfl)
        rw [bI_f (by simp)] at hq
        exact hq
      · refine z_iload O dX4_ownerIn_39 rfl ?_
        refine z_iload O dX4_ownerIn_41 rfl ?_
        refine z_icmp_geN O 50 dX4_ownerIn_43 (by decide) (by have := clm_lt hr l f; have := ownS_lt hr l f; omega) (by have := clm_lt hr l f; have := ownS_lt hr l f; omega) (fun h43 => ?_) (fun h43 => by omega)
        refine z_iconst O (nI 0) dX4_ownerIn_50 (by decide) ?_
        refine z_istore (lv' := [(0, _), (1, _), (2, _), (3, _), (4, _), (5, _), (6, _), (7, _)]) O dX4_ownerIn_51 (by decide) rfl ?_
        refine z_iload O dX4_ownerIn_53 rfl ?_
        refine z_iload O dX4_ownerIn_55 rfl ?_
        refine z_icmp_leN O 65 dX4_ownerIn_57 (by decide) (by have := clm_lt hr l f; have := ownS_lt hr l f; omega) (by have := clm_lt hr l f; have := ownS_lt hr l f; omega) (fun h57 => by omega) (fun h57 => ?_)
        refine z_iload O dX4_ownerIn_60 rfl ?_
        refine z_goto O 66 dX4_ownerIn_62 (by decide) ?_
        refine z_istore_n (lv' := [(0, _), (1, _), (2, _), (3, _), (4, _), (5, _), (6, _), (7, _)]) O dX4_ownerIn_66 (by decide) rfl ?_
        refine z_iload O dX4_ownerIn_67 rfl ?_
        refine z_iload O dX4_ownerIn_69 rfl ?_
        refine z_icmp_leN O 79 dX4_ownerIn_71 (by decide) (by have := clm_lt hr l f; have := ownS_lt hr l f; omega) (by have := clm_lt hr l f; have := ownS_lt hr l f; omega) (fun h71 => by omega) (fun h71 => ?_)
        refine z_iload O dX4_ownerIn_74 rfl ?_
        refine z_goto O 81 dX4_ownerIn_76 (by decide) ?_
        refine z_istore (lv' := [(0, _), (1, _), (2, _), (3, _), (4, _), (5, _), (6, _), (7, _)]) O dX4_ownerIn_81 (by decide) rfl ?_
        refine z_iincN (lv' := [(0, _), (1, _), (2, _), (3, _), (4, _), (5, _), (6, _), (7, _)]) O 1 dX4_ownerIn_83 (by decide) rfl rfl (by decide) ?_
        refine z_goto O 11 dX4_ownerIn_86 (by decide) ?_
        refine z_kp (lv' := [(0, _), (1, _), (2, _), (3, _), (4, _), (5, _), (6, _)]) [0, 1, 2, 3, 4, 5, 6] rfl ?_
        rw [show ownS (clm r l) (f + 1) = (some f, clm r l f) from if_pos hgt] at ih
        have hq := ih f (fun g hg => by cases hg; rfl)
        rw [bI_f (by simp)] at hq
        exact hq
/-- what lies ahead of the tried row is as it was */ -/
def smW (w w' : Nat → Nat) : Prop := ∀ j, j < 3273 → w' j = w j
set_option maxRecDepth 20000 in
set_option maxHeartbeats 4000000 in
theorem m_passesMany {r we : Nat → Nat} (h : RW w 0 r we) (hr : rowOK r) (hw : weOK we) (hz : rowZ r) (hs : sinceOK r) (hy : r 117 + 100 < 1048576) {m : Nat} (hm : m ≤ 40) : zS G 4 yX4_passesMany cX4_passesMany 3 none [.ref (zad (zb G) 21), .int (nI m)] (yM G c0_ c1_ c2_ c3_ c4_ c5_ c6_ c7_ c8_ c9_ c10_ c11_ c12_ c13_ c14_ c15_ c16_ c17_ c18_ c19_ c20_ w kp tx txl rf ya yb at2 st2 iwd ifg nb fr la nms nd wf hh tl) 0 0 (zPU (fun M' => ∃ w' : Nat → Nat, RW w' 3273 (ps we r m) we ∧ smW w w' ∧ M' = (yM G c0_ c1_ c2_ c3_ c4_ c5_ c6_ c7_ c8_ c9_ c10_ c11_ c12_ c13_ c14_ c15_ c16_ c17_ c18_ c19_ c20_ w' kp tx txl rf ya yb at2 st2 iwd ifg nb fr la nms nd wf hh tl))) := by
  refine zS.of (by decide) (Nat.le_of_ble_eq_true rfl) (fun F O hR1 hR2 => ?_)
  have O : zOk G F yX4_passesMany cX4_passesMany 3 none RX4 4 (yM G c0_ c1_ c2_ c3_ c4_ c5_ c6_ c7_ c8_ c9_ c10_ c11_ c12_ c13_ c14_ c15_ c16_ c17_ c18_ c19_ c20_ w kp tx txl rf ya yb at2 st2 iwd ifg nb fr la nms nd wf hh tl).length := O
  refine z_eq (lv' := [(0, _), (1, _)]) rfl rfl rfl ?_
  refine z_aload_n O dX4_passesMany_0 rfl ?_
  refine z_V0u0 O m_tries mX4_tries lkX4_184 rfl (by rfl) dX4_passesMany_1 (Nat.le_of_ble_eq_true rfl) (by decide) ?_
  refine z_iconst O (nI 0) dX4_passesMany_4 (by decide) ?_
  refine z_istore_n (lv' := [(0, _), (1, _), (2, _)]) O dX4_passesMany_5 (by decide) rfl ?_
  refine zdown (P := fun i => ∀ w' : Nat → Nat, RW w' 3273 (ps we r i) we → smW w w' → Z G F 0 0 (zEnd G F (zPU (fun M' => ∃ w' : Nat → Nat, RW w' 3273 (ps we r m) we ∧ smW w w' ∧ M' = (yM G c0_ c1_ c2_ c3_ c4_ c5_ c6_ c7_ c8_ c9_ c10_ c11_ c12_ c13_ c14_ c15_ c16_ c17_ c18_ c19_ c20_ w' kp tx txl rf ya yb at2 st2 iwd ifg nb fr la nms nd wf hh tl))) 0 0) 6 [(0, .ref (zad (zb G) 21)), (1, .int (nI m)), (2, .int (nI i))] [] (yM G c0_ c1_ c2_ c3_ c4_ c5_ c6_ c7_ c8_ c9_ c10_ c11_ c12_ c13_ c14_ c15_ c16_ c17_ c18_ c19_ c20_ w' kp tx txl rf ya yb at2 st2 iwd ifg nb fr la nms nd wf hh tl)) (m) ?_ ?_ _ (RW_copy h hr (by decide)) (fun j hj => by unfold cpyN; rw [if_neg (by omega)])
  · intro w' h' ho
    refine z_iload_n O dX4_passesMany_6 rfl ?_
    refine z_iload_n O dX4_passesMany_7 rfl ?_
    refine z_icmp_geN O 25 dX4_passesMany_8 (by decide) (by omega) (by omega) (fun h8 => ?_) (fun h8 => by omega)
    exact z_vret O dX4_passesMany_25 ⟨rfl, w', h', ho, rfl⟩
  · intro i hi ih w' h' ho
    refine z_iload_n O dX4_passesMany_6 rfl ?_
    refine z_iload_n O dX4_passesMany_7 rfl ?_
    refine z_icmp_geN O 25 dX4_passesMany_8 (by decide) (by omega) (by omega) (fun h8 => by omega) (fun h8 => ?_)
    refine z_aload_n O dX4_passesMany_11 rfl ?_
    refine z_sipush O (nI 3273) dX4_passesMany_12 (by decide) ?_
    refine z_iconst O (nI 1) dX4_passesMany_15 (by decide) ?_
    refine z_V2pu0 O (m_passes1 h' (ps_ok hr hz hs hy i (by omega)).1 (by decide) hw) mX4_passes lkX4_103 rfl (by rfl) dX4_passesMany_16 (Nat.le_of_ble_eq_true rfl) (by decide) (fun M' hq => ?_)
    obtain ⟨w2, h2, ho2, rfl⟩ := hq
    refine z_iincN (lv' := [(0, _), (1, _), (2, _)]) O 1 dX4_passesMany_19 (by decide) rfl rfl (by decide) ?_
    refine z_goto O 6 dX4_passesMany_22 (by decide) ?_
    exact ih w2 h2 (fun j hj => (ho2 j (by omega)).trans (ho j hj))
end YS
