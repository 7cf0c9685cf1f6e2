/-! L_part -/
def f_L_part (M : Mm) (x0 : Int32) (x1 : Int32) : OR := dvk x1 (some ((jrem (x0 &&& 2147483647) x1), M))
set_option maxHeartbeats 4000000 in
set_option maxRecDepth 100000 in
theorem c_L_part {l : Launch} {w : Wp} {L : Ly} {M : Mm} {x0 : Int32} {x1 : Int32} {R0 : Int32 × Mm}  (hf : f_L_part M x0 x1 = some R0) : CT l w L yL_part cL_part 2 (some .int) 0 [.int x0, .int x1] M R0 := by
  unfold f_L_part at hf
  refine CT_of pn_L (Nat.le_of_ble_eq_true rfl) (fun E cx en => ?_)
  have cx : Ok w L E RL cL_part 2 0 := cx
  show G l w L E M [(0, .int x0), (1, .int x1)] 0 []
  refine g_iload_n (pc := 0) cx dL_part_0 rfl 0 rfl ?_
  refine g_ldc (pc := 1) cx tk_L_7 dL_part_1 ?_
  refine g_iand (pc := 3) cx dL_part_3 ?_
  refine g_iload_n (pc := 4) cx dL_part_4 rfl 1 rfl ?_
  refine g_jremK (pc := 5) cx dL_part_5 hf (fun hf => ?_)
  exact g_iret (pc := 6) cx en dL_part_6 rfl hf
/-! L_take -/
def b_L_take_39 (b N : Nat) (xs : Nat → Int32) (M : Mm) (s0 : Int32) : OR := some (s0, M)
def f_L_take (b N : Nat) (xs : Nat → Int32) (M : Mm) (x1 : Int32) : OR := if (nI N) = 0 then b_L_take_39 b N xs M ((7919 * x1) + 3) else dvk (nI N) (ckd (jrem x1 (nI N)) N (dvk (nI N) (b_L_take_39 b N xs M ((((xs (ix (jrem x1 (nI N)))) >>> ((jrem x1 7) &&& 31)) ^^^ ((x1 / (nI N)) * 31)) ^^^ (x1 * 2654435)))))
set_option maxHeartbeats 4000000 in
set_option maxRecDepth 100000 in
theorem w_L_take_39 {l : Launch} {w : Wp} {L : Ly} {E : Cx} {b N : Nat} {xs : Nat → Int32} {s0 : Int32} {R0 : Int32 × Mm} (cx : Ok w L E RL cL_take 2 0) (en : En w L E (some .int) R0) (sc : Sc E b N xs) {M : Mm} (hf : b_L_take_39 b N xs M s0 = some R0) : G l w L E M [] 39 [.int s0] := by
  unfold b_L_take_39 at hf
  exact g_iret (pc := 39) cx en dL_take_39 rfl hf
set_option maxHeartbeats 4000000 in
set_option maxRecDepth 100000 in
theorem c_L_take {l : Launch} {w : Wp} {L : Ly} {b N : Nat} {xs : Nat → Int32} {M : Mm} {x1 : Int32} {R0 : Int32 × Mm} (hLb : L b = none) (hf : f_L_take b N xs M x1 = some R0) : CTs l w L yL_take cL_take 2 (some .int) 0 [.ref b, .int x1] M b N xs R0 := by
  unfold f_L_take at hf
  refine CTs_of hLb pn_L (Nat.le_of_ble_eq_true rfl) (fun E cx en sc => ?_)
  have cx : Ok w L E RL cL_take 2 0 := cx
  show G l w L E M [(0, .ref b), (1, .int x1)] 0 []
  refine g_aload_n (pc := 0) cx dL_take_0 rfl 0 rfl ?_
  refine g_slen (pc := 1) cx sc dL_take_1 ?_
  refine g_if_ne (pc := 2) (tgt := 15) cx dL_take_2 rfl hf (fun hf => ?_) (fun hf => ?_)
  · refine g_sipush (pc := 5) (v := 7919) cx dL_take_5 (by decide) ?_
    refine g_iload_n (pc := 8) cx dL_take_8 rfl 1 rfl ?_
    refine g_imul (pc := 9) cx dL_take_9 ?_
    refine g_iconst (pc := 10) (v := 3) cx dL_take_10 (by decide) ?_
    refine g_iadd (pc := 11) cx dL_take_11 ?_
    refine g_goto (pc := 12) (tgt := 39) cx dL_take_12 rfl ?_
    refine g_sub [] [] rfl ?_
    exact w_L_take_39 cx en sc hf
  · refine g_aload_n (pc := 15) cx dL_take_15 rfl 0 rfl ?_
    refine g_iload_n (pc := 16) cx dL_take_16 rfl 1 rfl ?_
    refine g_aload_n (pc := 17) cx dL_take_17 rfl 0 rfl ?_
    refine g_slen (pc := 18) cx sc dL_take_18 ?_
    refine g_jremK (pc := 19) cx dL_take_19 hf (fun hf => ?_)
    refine g_sld (pc := 20) cx sc dL_take_20 hf (fun hf => ?_)
    refine g_iload_n (pc := 21) cx dL_take_21 rfl 1 rfl ?_
    refine g_bipush (pc := 22) (v := 7) cx dL_take_22 (by decide) ?_
    refine g_jrem (pc := 24) cx dL_take_24 (by decide) ?_
    refine g_ishr (pc := 25) cx dL_take_25 ?_
    refine g_iload_n (pc := 26) cx dL_take_26 rfl 1 rfl ?_
    refine g_aload_n (pc := 27) cx dL_take_27 rfl 0 rfl ?_
    refine g_slen (pc := 28) cx sc dL_take_28 ?_
    refine g_idivK (pc := 29) cx dL_take_29 hf (fun hf => ?_)
    refine g_bipush (pc := 30) (v := 31) cx dL_take_30 (by decide) ?_
    refine g_imul (pc := 32) cx dL_take_32 ?_
    refine g_ixor (pc := 33) cx dL_take_33 ?_
    refine g_iload_n (pc := 34) cx dL_take_34 rfl 1 rfl ?_
    refine g_ldc (pc := 35) cx tk_L_8 dL_take_35 ?_
    refine g_imul (pc := 37) cx dL_take_37 ?_
    refine g_ixor (pc := 38) cx dL_take_38 ?_
    refine g_sub [] [] rfl ?_
    exact w_L_take_39 cx en sc hf
/-! L_mixed -/
def f_L_mixed (M : Mm) (j0 : Int64) (j2 : Int64) : OQ Int64 := some (((31 * j0) + j2), M)
set_option maxHeartbeats 4000000 in
set_option maxRecDepth 100000 in
theorem c_L_mixed {l : Launch} {w : Wp} {L : Ly} {M : Mm} {j0 : Int64} {j2 : Int64} {R0 : Int64 × Mm}  (hf : f_L_mixed M j0 j2 = some R0) : CJ l w L yL_mixed cL_mixed 4 0 [.long j0, .long j2] M R0 := by
  unfold f_L_mixed at hf
  refine CJ_of pn_L (Nat.le_of_ble_eq_true rfl) (fun E cx en => ?_)
  have cx : Ok w L E RL cL_mixed 4 0 := cx
  show G l w L E M [(0, .long j0), (2, .long j2)] 0 []
  refine g_ldc2 (pc := 0) cx tj_L_9 dL_mixed_0 ?_
  refine g_lload_n (pc := 3) cx dL_mixed_3 rfl 0 rfl ?_
  refine g_lmul (pc := 4) cx dL_mixed_4 ?_
  refine g_lload_n (pc := 5) cx dL_mixed_5 rfl 1 rfl ?_
  refine g_ladd (pc := 6) cx dL_mixed_6 ?_
  exact g_lret (pc := 7) cx en dL_mixed_7 hf
/-! L_state -/
def l_L_state_107 (a0 : Nat) : Nat → Mm → Int64 → Int32 → OQ Int64
  | 0, _, _, _ => none
  | k + 1, M, j1, x3 => obn (f_X8_count a0 M 10) fun q3 M1 => (if x3 < (3 * q3) then obn (f_X8_log a0 M1 (x3 / 3) (jrem x3 3)) fun q6 M4 => (obn (f_L_mixed M4 j1 (Int32.toInt64 q6)) fun q9 M7 => (l_L_state_107 a0 k M7 q9 (x3 + 1))) else some (j1, M1))
def l_L_state_69 (a0 : Nat) : Nat → Mm → Int64 → Int32 → OQ Int64
  | 0, _, _, _ => none
  | k + 1, M, j1, x3 => obn (f_X8_count a0 M 1) fun q3 M1 => (if x3 < (6 * q3) then obn (f_X8_isolatorOf a0 M1 (x3 / 6) (jrem x3 6)) fun q6 M4 => (obn (f_L_mixed M4 j1 (Int32.toInt64 q6)) fun q9 M7 => (l_L_state_69 a0 k M7 q9 (x3 + 1))) else l_L_state_107 a0 FU M1 j1 0)
def l_L_state_31 (a0 : Nat) : Nat → Mm → Int64 → Int32 → OQ Int64
  | 0, _, _, _ => none
  | k + 1, M, j1, x3 => obn (f_X8_count a0 M 0) fun q3 M1 => (if x3 < (11 * q3) then obn (f_X8_sectionOf a0 M1 (x3 / 11) (jrem x3 11)) fun q6 M4 => (obn (f_L_mixed M4 j1 (Int32.toInt64 q6)) fun q9 M7 => (l_L_state_31 a0 k M7 q9 (x3 + 1))) else l_L_state_69 a0 FU M1 j1 0)
def l_L_state_6 (a0 : Nat) : Nat → Mm → Int64 → Int32 → OQ Int64
  | 0, _, _, _ => none
  | k + 1, M, j1, x3 => if x3 < 14 then obn (f_X8_count a0 M x3) fun q3 M1 => (obn (f_L_mixed M1 j1 (Int32.toInt64 q3)) fun q6 M4 => (l_L_state_6 a0 k M4 q6 (x3 + 1))) else l_L_state_31 a0 FU M j1 0
def f_L_state (a0 : Nat) (M : Mm) : OQ Int64 := l_L_state_6 a0 FU M 6 0
set_option maxHeartbeats 4000000 in
set_option maxRecDepth 100000 in
theorem w_L_state_107 {l : Launch} {w : Wp} {L : Ly} {E : Cx} {a0 : Nat} {R0 : Int64 × Mm} (cx : Ok w L E RL cL_state 4 5) (en : EnJ w L E R0) (h0 : LTramWires w L (a0)) : ∀ (k : Nat) {M : Mm} {j1 : Int64} {x3 : Int32}, l_L_state_107 a0 k M j1 x3 = some R0 → G l w L E M [(0, .ref a0), (1, .long j1), (3, .int x3)] 107 [] := by
  intro k
  induction k with
  | zero =>
    intro M j1 x3 hf
    exact absurd hf (by simp [l_L_state_107])
  | succ k ih =>
    intro M j1 x3 hf
    unfold l_L_state_107 at hf
    refine g_iload_n (pc := 107) cx dL_state_107 rfl 2 rfl ?_
    refine g_iconst (pc := 108) (v := 3) cx dL_state_108 (by decide) ?_
    refine g_aload_n (pc := 109) cx dL_state_109 rfl 0 rfl ?_
    refine g_bipush (pc := 110) (v := 10) cx dL_state_110 (by decide) ?_
    obtain ⟨q3, M1, hc2, hf⟩ := obn_some2 hf
    refine g_callVi (pc := 112) [.int 10] [.int 3, .int x3] cx lk_L_13 vw_X8 (LTramWires_o h0) (by decide) (c_X8_count h0 hc2) dL_state_112 (Nat.le_of_ble_eq_true rfl) ?_
    refine g_imul (pc := 115) cx dL_state_115 ?_
    refine g_icmp_ge (pc := 116) (tgt := 141) cx dL_state_116 rfl hf (fun hf => ?_) (fun hf => ?_)
    · refine g_lload_n (pc := 119) cx dL_state_119 rfl 1 rfl ?_
      refine g_aload_n (pc := 120) cx dL_state_120 rfl 0 rfl ?_
      refine g_iload_n (pc := 121) cx dL_state_121 rfl 2 rfl ?_
      refine g_iconst (pc := 122) (v := 3) cx dL_state_122 (by decide) ?_
      refine g_idiv (pc := 123) cx dL_state_123 (by decide) ?_
      refine g_iload_n (pc := 124) cx dL_state_124 rfl 2 rfl ?_
      refine g_iconst (pc := 125) (v := 3) cx dL_state_125 (by decide) ?_
      refine g_jrem (pc := 126) cx dL_state_126 (by decide) ?_
      obtain ⟨q6, M4, hc5, hf⟩ := obn_some2 hf
      refine g_callVi (pc := 127) [.int (x3 / 3), .int (jrem x3 3)] [.long j1] cx lk_L_32 vw_X8 (LTramWires_o h0) (by decide) (c_X8_log h0 hc5) dL_state_127 (Nat.le_of_ble_eq_true rfl) ?_
      refine g_i2l (pc := 130) cx dL_state_130 ?_
      obtain ⟨q9, M7, hc8, hf⟩ := obn_some2 hf
      refine g_callSj (pc := 131) [.long j1, .long (Int32.toInt64 q6)] [] cx lk_L_19 (by decide) (c_L_mixed hc8) dL_state_131 (Nat.le_of_ble_eq_true rfl) ?_
      refine g_lstore_n (pc := 134) cx [(1, .long q9), (0, .ref a0), (3, .int x3)] dL_state_134 rfl (by decide) rfl ?_
      refine g_iinc (pc := 135) cx [(3, .int (x3 + 1)), (1, .long q9), (0, .ref a0)] dL_state_135 2 rfl rfl (by decide) rfl ?_
      refine g_goto (pc := 138) (tgt := 107) cx dL_state_138 rfl ?_
      refine g_sub [2, 1, 0] [(0, .ref a0), (1, .long q9), (3, .int (x3 + 1))] rfl ?_
      exact ih hf
    · refine g_lload_n (pc := 141) cx dL_state_141 rfl 1 rfl ?_
      exact g_lret (pc := 142) cx en dL_state_142 hf
set_option maxHeartbeats 4000000 in
set_option maxRecDepth 100000 in
theorem w_L_state_69 {l : Launch} {w : Wp} {L : Ly} {E : Cx} {a0 : Nat} {R0 : Int64 × Mm} (cx : Ok w L E RL cL_state 4 5) (en : EnJ w L E R0) (h0 : LTramWires w L (a0)) : ∀ (k : Nat) {M : Mm} {j1 : Int64} {x3 : Int32}, l_L_state_69 a0 k M j1 x3 = some R0 → G l w L E M [(0, .ref a0), (1, .long j1), (3, .int x3)] 69 [] := by
  intro k
  induction k with
  | zero =>
    intro M j1 x3 hf
    exact absurd hf (by simp [l_L_state_69])
  | succ k ih =>
    intro M j1 x3 hf
    unfold l_L_state_69 at hf
    refine g_iload_n (pc := 69) cx dL_state_69 rfl 2 rfl ?_
    refine g_bipush (pc := 70) (v := 6) cx dL_state_70 (by decide) ?_
    refine g_aload_n (pc := 72) cx dL_state_72 rfl 0 rfl ?_
    refine g_iconst (pc := 73) (v := 1) cx dL_state_73 (by decide) ?_
    obtain ⟨q3, M1, hc2, hf⟩ := obn_some2 hf
    refine g_callVi (pc := 74) [.int 1] [.int 6, .int x3] cx lk_L_13 vw_X8 (LTramWires_o h0) (by decide) (c_X8_count h0 hc2) dL_state_74 (Nat.le_of_ble_eq_true rfl) ?_
    refine g_imul (pc := 77) cx dL_state_77 ?_
    refine g_icmp_ge (pc := 78) (tgt := 105) cx dL_state_78 rfl hf (fun hf => ?_) (fun hf => ?_)
    · refine g_lload_n (pc := 81) cx dL_state_81 rfl 1 rfl ?_
      refine g_aload_n (pc := 82) cx dL_state_82 rfl 0 rfl ?_
      refine g_iload_n (pc := 83) cx dL_state_83 rfl 2 rfl ?_
      refine g_bipush (pc := 84) (v := 6) cx dL_state_84 (by decide) ?_
      refine g_idiv (pc := 86) cx dL_state_86 (by decide) ?_
      refine g_iload_n (pc := 87) cx dL_state_87 rfl 2 rfl ?_
      refine g_bipush (pc := 88) (v := 6) cx dL_state_88 (by decide) ?_
      refine g_jrem (pc := 90) cx dL_state_90 (by decide) ?_
      obtain ⟨q6, M4, hc5, hf⟩ := obn_some2 hf
      refine g_callVi (pc := 91) [.int (x3 / 6), .int (jrem x3 6)] [.long j1] cx lk_L_29 vw_X8 (LTramWires_o h0) (by decide) (c_X8_isolatorOf h0 hc5) dL_state_91 (Nat.le_of_ble_eq_true rfl) ?_
      refine g_i2l (pc := 94) cx dL_state_94 ?_
      obtain ⟨q9, M7, hc8, hf⟩ := obn_some2 hf
      refine g_callSj (pc := 95) [.long j1, .long (Int32.toInt64 q6)] [] cx lk_L_19 (by decide) (c_L_mixed hc8) dL_state_95 (Nat.le_of_ble_eq_true rfl) ?_
      refine g_lstore_n (pc := 98) cx [(1, .long q9), (0, .ref a0), (3, .int x3)] dL_state_98 rfl (by decide) rfl ?_
      refine g_iinc (pc := 99) cx [(3, .int (x3 + 1)), (1, .long q9), (0, .ref a0)] dL_state_99 2 rfl rfl (by decide) rfl ?_
      refine g_goto (pc := 102) (tgt := 69) cx dL_state_102 rfl ?_
      refine g_sub [2, 1, 0] [(0, .ref a0), (1, .long q9), (3, .int (x3 + 1))] rfl ?_
      exact ih hf
    · refine g_iconst (pc := 105) (v := 0) cx dL_state_105 (by decide) ?_
      refine g_istore_n (pc := 106) cx [(3, .int 0), (0, .ref a0), (1, .long j1)] dL_state_106 rfl (by decide) rfl ?_
      refine g_sub [1, 2, 0] [(0, .ref a0), (1, .long j1), (3, .int 0)] rfl ?_
      exact w_L_state_107 cx en h0 FU hf
set_option maxHeartbeats 4000000 in
set_option maxRecDepth 100000 in
theorem w_L_state_31 {l : Launch} {w : Wp} {L : Ly} {E : Cx} {a0 : Nat} {R0 : Int64 × Mm} (cx : Ok w L E RL cL_state 4 5) (en : EnJ w L E R0) (h0 : LTramWires w L (a0)) : ∀ (k : Nat) {M : Mm} {j1 : Int64} {x3 : Int32}, l_L_state_31 a0 k M j1 x3 = some R0 → G l w L E M [(0, .ref a0), (1, .long j1), (3, .int x3)] 31 [] := by
  intro k
  induction k with
  | zero =>
    intro M j1 x3 hf
    exact absurd hf (by simp [l_L_state_31])
  | succ k ih =>
    intro M j1 x3 hf
    unfold l_L_state_31 at hf
    refine g_iload_n (pc := 31) cx dL_state_31 rfl 2 rfl ?_
    refine g_bipush (pc := 32) (v := 11) cx dL_state_32 (by decide) ?_
    refine g_aload_n (pc := 34) cx dL_state_34 rfl 0 rfl ?_
    refine g_iconst (pc := 35) (v := 0) cx dL_state_35 (by decide) ?_
    obtain ⟨q3, M1, hc2, hf⟩ := obn_some2 hf
    refine g_callVi (pc := 36) [.int 0] [.int 11, .int x3] cx lk_L_13 vw_X8 (LTramWires_o h0) (by decide) (c_X8_count h0 hc2) dL_state_36 (Nat.le_of_ble_eq_true rfl) ?_
    refine g_imul (pc := 39) cx dL_state_39 ?_
    refine g_icmp_ge (pc := 40) (tgt := 67) cx dL_state_40 rfl hf (fun hf => ?_) (fun hf => ?_)
    · refine g_lload_n (pc := 43) cx dL_state_43 rfl 1 rfl ?_
      refine g_aload_n (pc := 44) cx dL_state_44 rfl 0 rfl ?_
      refine g_iload_n (pc := 45) cx dL_state_45 rfl 2 rfl ?_
      refine g_bipush (pc := 46) (v := 11) cx dL_state_46 (by decide) ?_
      refine g_idiv (pc := 48) cx dL_state_48 (by decide) ?_
      refine g_iload_n (pc := 49) cx dL_state_49 rfl 2 rfl ?_
      refine g_bipush (pc := 50) (v := 11) cx dL_state_50 (by decide) ?_
      refine g_jrem (pc := 52) cx dL_state_52 (by decide) ?_
      obtain ⟨q6, M4, hc5, hf⟩ := obn_some2 hf
      refine g_callVi (pc := 53) [.int (x3 / 11), .int (jrem x3 11)] [.long j1] cx lk_L_25 vw_X8 (LTramWires_o h0) (by decide) (c_X8_sectionOf h0 hc5) dL_state_53 (Nat.le_of_ble_eq_true rfl) ?_
      refine g_i2l (pc := 56) cx dL_state_56 ?_
      obtain ⟨q9, M7, hc8, hf⟩ := obn_some2 hf
      refine g_callSj (pc := 57) [.long j1, .long (Int32.toInt64 q6)] [] cx lk_L_19 (by decide) (c_L_mixed hc8) dL_state_57 (Nat.le_of_ble_eq_true rfl) ?_
      refine g_lstore_n (pc := 60) cx [(1, .long q9), (0, .ref a0), (3, .int x3)] dL_state_60 rfl (by decide) rfl ?_
      refine g_iinc (pc := 61) cx [(3, .int (x3 + 1)), (1, .long q9), (0, .ref a0)] dL_state_61 2 rfl rfl (by decide) rfl ?_
      refine g_goto (pc := 64) (tgt := 31) cx dL_state_64 rfl ?_
      refine g_sub [2, 1, 0] [(0, .ref a0), (1, .long q9), (3, .int (x3 + 1))] rfl ?_
      exact ih hf
    · refine g_iconst (pc := 67) (v := 0) cx dL_state_67 (by decide) ?_
      refine g_istore_n (pc := 68) cx [(3, .int 0), (0, .ref a0), (1, .long j1)] dL_state_68 rfl (by decide) rfl ?_
      refine g_sub [1, 2, 0] [(0, .ref a0), (1, .long j1), (3, .int 0)] rfl ?_
      exact w_L_state_69 cx en h0 FU hf
set_option maxHeartbeats 4000000 in
set_option maxRecDepth 100000 in
theorem w_L_state_6 {l : Launch} {w : Wp} {L : Ly} {E : Cx} {a0 : Nat} {R0 : Int64 × Mm} (cx : Ok w L E RL cL_state 4 5) (en : EnJ w L E R0) (h0 : LTramWires w L (a0)) : ∀ (k : Nat) {M : Mm} {j1 : Int64} {x3 : Int32}, l_L_state_6 a0 k M j1 x3 = some R0 → G l w L E M [(0, .ref a0), (1, .long j1), (3, .int x3)] 6 [] := by
  intro k
  induction k with
  | zero =>
    intro M j1 x3 hf
    exact absurd hf (by simp [l_L_state_6])
  | succ k ih =>
    intro M j1 x3 hf
    unfold l_L_state_6 at hf
    refine g_iload_n (pc := 6) cx dL_state_6 rfl 2 rfl ?_
    refine g_bipush (pc := 7) (v := 14) cx dL_state_7 (by decide) ?_
    refine g_icmp_ge (pc := 9) (tgt := 29) cx dL_state_9 rfl hf (fun hf => ?_) (fun hf => ?_)
    · refine g_lload_n (pc := 12) cx dL_state_12 rfl 1 rfl ?_
      refine g_aload_n (pc := 13) cx dL_state_13 rfl 0 rfl ?_
      refine g_iload_n (pc := 14) cx dL_state_14 rfl 2 rfl ?_
      obtain ⟨q3, M1, hc2, hf⟩ := obn_some2 hf
      refine g_callVi (pc := 15) [.int x3] [.long j1] cx lk_L_13 vw_X8 (LTramWires_o h0) (by decide) (c_X8_count h0 hc2) dL_state_15 (Nat.le_of_ble_eq_true rfl) ?_
      refine g_i2l (pc := 18) cx dL_state_18 ?_
      obtain ⟨q6, M4, hc5, hf⟩ := obn_some2 hf
      refine g_callSj (pc := 19) [.long j1, .long (Int32.toInt64 q3)] [] cx lk_L_19 (by decide) (c_L_mixed hc5) dL_state_19 (Nat.le_of_ble_eq_true rfl) ?_
      refine g_lstore_n (pc := 22) cx [(1, .long q6), (0, .ref a0), (3, .int x3)] dL_state_22 rfl (by decide) rfl ?_
      refine g_iinc (pc := 23) cx [(3, .int (x3 + 1)), (1, .long q6), (0, .ref a0)] dL_state_23 2 rfl rfl (by decide) rfl ?_
      refine g_goto (pc := 26) (tgt := 6) cx dL_state_26 rfl ?_
      refine g_sub [2, 1, 0] [(0, .ref a0), (1, .long q6), (3, .int (x3 + 1))] rfl ?_
      exact ih hf
    · refine g_iconst (pc := 29) (v := 0) cx dL_state_29 (by decide) ?_
      refine g_istore_n (pc := 30) cx [(3, .int 0), (0, .ref a0), (1, .long j1)] dL_state_30 rfl (by decide) rfl ?_
      refine g_sub [1, 2, 0] [(0, .ref a0), (1, .long j1), (3, .int 0)] rfl ?_
      exact w_L_state_31 cx en h0 FU hf
set_option maxHeartbeats 4000000 in
set_option maxRecDepth 100000 in
theorem c_L_state {l : Launch} {w : Wp} {L : Ly} {a0 : Nat} {M : Mm} {R0 : Int64 × Mm} (h0 : LTramWires w L (a0)) (hf : f_L_state a0 M = some R0) : CJ l w L yL_state cL_state 4 5 [.ref a0] M R0 := by
  unfold f_L_state at hf
  refine CJ_of pn_L (Nat.le_of_ble_eq_true rfl) (fun E cx en => ?_)
  have cx : Ok w L E RL cL_state 4 5 := cx
  show G l w L E M [(0, .ref a0)] 0 []
  refine g_ldc2 (pc := 0) cx tj_L_11 dL_state_0 ?_
  refine g_lstore_n (pc := 3) cx [(1, .long 6), (0, .ref a0)] dL_state_3 rfl (by decide) rfl ?_
  refine g_iconst (pc := 4) (v := 0) cx dL_state_4 (by decide) ?_
  refine g_istore_n (pc := 5) cx [(3, .int 0), (1, .long 6), (0, .ref a0)] dL_state_5 rfl (by decide) rfl ?_
  refine g_sub [2, 1, 0] [(0, .ref a0), (1, .long 6), (3, .int 0)] rfl ?_
  exact w_L_state_6 cx en h0 FU hf
/-! L_refusesPlaces -/
def b_L_refusesPlaces_184 (a0 : Nat) (M : Mm) : OR := zrk 0 (some (0, M))
def b_L_refusesPlaces_172 (a0 : Nat) (rc2 : Mm → Int32 → OR) (rc134 : Mm → Int32 → OR) (M : Mm) (x1 : Int32) (x2 : Int32) (x3 : Int32) (x4 : Int32) (x5 : Int32) : OR := obn (f_X8_step a0 M x4 x5) fun q3 M1 => (if q3 = (-1) then rc134 M1 (x4 + 1) else b_L_refusesPlaces_184 a0 M1)
def b_L_refusesPlaces_158 (a0 : Nat) (rc2 : Mm → Int32 → OR) (rc134 : Mm → Int32 → OR) (M : Mm) (x1 : Int32) (x2 : Int32) (x3 : Int32) (x4 : Int32) (s0 : Int32) : OR := obn (f_X8_refusal a0 M x4 s0) fun q3 M1 => (if q3 = (-1) then b_L_refusesPlaces_172 a0 rc2 rc134 M1 x1 x2 x3 x4 s0 else b_L_refusesPlaces_184 a0 M1)
def b_L_refusesPlaces_153 (a0 : Nat) (rc2 : Mm → Int32 → OR) (rc134 : Mm → Int32 → OR) (M : Mm) (x1 : Int32) (x2 : Int32) (x3 : Int32) (x4 : Int32) : OR := b_L_refusesPlaces_158 a0 rc2 rc134 M x1 x2 x3 x4 x3
def l_L_refusesPlaces_134 (a0 : Nat) (rc2 : Mm → Int32 → OR) (x1 : Int32) (x2 : Int32) (x3 : Int32) : Nat → Mm → Int32 → OR
  | 0, _, _ => none
  | k + 1, M, x4 => if x4 < 8 then if x4 = 2 then b_L_refusesPlaces_153 a0 rc2 (l_L_refusesPlaces_134 a0 rc2 x1 x2 x3 k) M x1 x2 x3 x4 else if x4 = 3 then b_L_refusesPlaces_153 a0 rc2 (l_L_refusesPlaces_134 a0 rc2 x1 x2 x3 k) M x1 x2 x3 x4 else b_L_refusesPlaces_158 a0 rc2 (l_L_refusesPlaces_134 a0 rc2 x1 x2 x3 k) M x1 x2 x3 x4 x2 else rc2 M (x1 + 1)
def b_L_refusesPlaces_129 (a0 : Nat) (M : Mm) : OR := zrk 0 (some (0, M))
def b_L_refusesPlaces_119 (a0 : Nat) (rc2 : Mm → Int32 → OR) (M : Mm) (x1 : Int32) (x2 : Int32) (x3 : Int32) : OR := obn (f_X8_isolatorOf a0 M x3 0) fun q3 M1 => (if q3 = (-1) then l_L_refusesPlaces_134 a0 rc2 x1 x2 x3 FU M1 0 else b_L_refusesPlaces_129 a0 M1)
def b_L_refusesPlaces_109 (a0 : Nat) (rc2 : Mm → Int32 → OR) (M : Mm) (x1 : Int32) (x2 : Int32) (x3 : Int32) : OR := obn (f_X8_isolator a0 M 0 x2) fun q3 M1 => (if q3 = (-1) then b_L_refusesPlaces_119 a0 rc2 M1 x1 x2 x3 else b_L_refusesPlaces_129 a0 M1)
def b_L_refusesPlaces_99 (a0 : Nat) (rc2 : Mm → Int32 → OR) (M : Mm) (x1 : Int32) (x2 : Int32) (x3 : Int32) : OR := obn (f_X8_isolator a0 M x2 0) fun q3 M1 => (if q3 = (-1) then b_L_refusesPlaces_109 a0 rc2 M1 x1 x2 x3 else b_L_refusesPlaces_129 a0 M1)
def b_L_refusesPlaces_90 (a0 : Nat) (rc2 : Mm → Int32 → OR) (M : Mm) (x1 : Int32) (x2 : Int32) (x3 : Int32) : OR := obn (f_X8_fetch a0 M x2) fun q3 M1 => (if q3 = (-1) then b_L_refusesPlaces_99 a0 rc2 M1 x1 x2 x3 else b_L_refusesPlaces_129 a0 M1)
def b_L_refusesPlaces_80 (a0 : Nat) (rc2 : Mm → Int32 → OR) (M : Mm) (x1 : Int32) (x2 : Int32) (x3 : Int32) : OR := obn (f_X8_leave a0 M x2 0) fun q3 M1 => (if q3 = (-1) then b_L_refusesPlaces_90 a0 rc2 M1 x1 x2 x3 else b_L_refusesPlaces_129 a0 M1)
def b_L_refusesPlaces_64 (a0 : Nat) (rc2 : Mm → Int32 → OR) (M : Mm) (x1 : Int32) (x2 : Int32) (x3 : Int32) : OR := obn (f_X8_count a0 M 8) fun q3 M1 => (obn (f_X8_enter a0 M1 x2 0 q3) fun q6 M4 => (if q6 = (-1) then b_L_refusesPlaces_80 a0 rc2 M4 x1 x2 x3 else b_L_refusesPlaces_129 a0 M4))
def b_L_refusesPlaces_55 (a0 : Nat) (rc2 : Mm → Int32 → OR) (M : Mm) (x1 : Int32) (x2 : Int32) (x3 : Int32) : OR := obn (f_X8_canPlan a0 M x2) fun q3 M1 => (if q3 = (-1) then b_L_refusesPlaces_64 a0 rc2 M1 x1 x2 x3 else b_L_refusesPlaces_129 a0 M1)
def b_L_refusesPlaces_45 (a0 : Nat) (rc2 : Mm → Int32 → OR) (M : Mm) (x1 : Int32) (x2 : Int32) (x3 : Int32) : OR := obn (f_X8_plan a0 M x2 0) fun q3 M1 => (if q3 = (-1) then b_L_refusesPlaces_55 a0 rc2 M1 x1 x2 x3 else b_L_refusesPlaces_129 a0 M1)
def b_L_refusesPlaces_34 (a0 : Nat) (rc2 : Mm → Int32 → OR) (M : Mm) (x1 : Int32) (x2 : Int32) (s0 : Int32) : OR := obn (f_X8_sectionOf a0 M x2 0) fun q3 M1 => (if q3 = (-1) then b_L_refusesPlaces_45 a0 rc2 M1 x1 x2 s0 else b_L_refusesPlaces_129 a0 M1)
def b_L_refusesPlaces_25 (a0 : Nat) (rc2 : Mm → Int32 → OR) (M : Mm) (x1 : Int32) (x2 : Int32) : OR := obn (f_X8_count a0 M 1) fun q3 M1 => (b_L_refusesPlaces_34 a0 rc2 M1 x1 x2 q3)
def b_L_refusesPlaces_20 (a0 : Nat) (rc2 : Mm → Int32 → OR) (M : Mm) (x1 : Int32) (s0 : Int32) : OR := if x1 = 0 then b_L_refusesPlaces_25 a0 rc2 M x1 s0 else b_L_refusesPlaces_34 a0 rc2 M x1 s0 (-1)
def b_L_refusesPlaces_11 (a0 : Nat) (rc2 : Mm → Int32 → OR) (M : Mm) (x1 : Int32) : OR := obn (f_X8_count a0 M 0) fun q3 M1 => (b_L_refusesPlaces_20 a0 rc2 M1 x1 q3)
def b_L_refusesPlaces_245 (a0 : Nat) (M : Mm) (s0 : Int32) : OR := zrk s0 (some (s0, M))
def b_L_refusesPlaces_244 (a0 : Nat) (M : Mm) : OR := b_L_refusesPlaces_245 a0 M 0
def b_L_refusesPlaces_230 (a0 : Nat) (M : Mm) : OR := obn (f_X8_step a0 M (-1) 0) fun q3 M1 => (if q3 = (-1) then b_L_refusesPlaces_245 a0 M1 1 else b_L_refusesPlaces_244 a0 M1)
def b_L_refusesPlaces_219 (a0 : Nat) (M : Mm) : OR := obn (f_X8_step a0 M 8 0) fun q3 M1 => (if q3 = (-1) then b_L_refusesPlaces_230 a0 M1 else b_L_refusesPlaces_244 a0 M1)
def b_L_refusesPlaces_209 (a0 : Nat) (M : Mm) : OR := obn (f_X8_refusal a0 M (-1) 0) fun q3 M1 => (if q3 = (-1) then b_L_refusesPlaces_219 a0 M1 else b_L_refusesPlaces_244 a0 M1)
def l_L_refusesPlaces_2 (a0 : Nat) : Nat → Mm → Int32 → OR
  | 0, _, _ => none
  | k + 1, M, x1 => if x1 < 2 then if x1 = 0 then b_L_refusesPlaces_11 a0 (l_L_refusesPlaces_2 a0 k) M x1 else b_L_refusesPlaces_20 a0 (l_L_refusesPlaces_2 a0 k) M x1 (-1) else obn (f_X8_refusal a0 M 8 0) fun q3 M1 => (if q3 = (-1) then b_L_refusesPlaces_209 a0 M1 else b_L_refusesPlaces_244 a0 M1)
def f_L_refusesPlaces (a0 : Nat) (M : Mm) : OR := l_L_refusesPlaces_2 a0 FU M 0
set_option maxHeartbeats 4000000 in
set_option maxRecDepth 100000 in
theorem w_L_refusesPlaces_184 {l : Launch} {w : Wp} {L : Ly} {E : Cx} {a0 : Nat} {R0 : Int32 × Mm} (cx : Ok w L E RL cL_refusesPlaces 6 7) (en : En w L E (some .boolean) R0) (h0 : LTramWires w L (a0)) {M : Mm} (hf : b_L_refusesPlaces_184 a0 M = some R0) : G l w L E M [] 184 [] := by
  unfold b_L_refusesPlaces_184 at hf
  refine g_iconst (pc := 184) (v := 0) cx dL_refusesPlaces_184 (by decide) ?_
  exact g_zret (pc := 185) cx en dL_refusesPlaces_185 hf
set_option maxHeartbeats 4000000 in
set_option maxRecDepth 100000 in
theorem w_L_refusesPlaces_172 {l : Launch} {w : Wp} {L : Ly} {E : Cx} {a0 : Nat} {rc2 : Mm → Int32 → OR} {rc134 : Mm → Int32 → OR} {x1 : Int32} {x2 : Int32} {x3 : Int32} {x4 : Int32} {x5 : Int32} {R0 : Int32 × Mm} (cx : Ok w L E RL cL_refusesPlaces 6 7) (en : En w L E (some .boolean) R0) (h0 : LTramWires w L (a0)) (hrc2 : ∀ (M : Mm) (x1 : Int32), rc2 M x1 = some R0 → G l w L E M [(0, .ref a0), (1, .int x1)] 2 []) (hrc134 : ∀ (M : Mm) (x4 : Int32), rc134 M x4 = some R0 → G l w L E M [(0, .ref a0), (1, .int x1), (2, .int x2), (3, .int x3), (4, .int x4)] 134 []) {M : Mm} (hf : b_L_refusesPlaces_172 a0 rc2 rc134 M x1 x2 x3 x4 x5 = some R0) : G l w L E M [(0, .ref a0), (1, .int x1), (2, .int x2), (3, .int x3), (4, .int x4), (5, .int x5)] 172 [] := by
  unfold b_L_refusesPlaces_172 at hf
  refine g_aload_n (pc := 172) cx dL_refusesPlaces_172 rfl 0 rfl ?_
  refine g_iload (pc := 173) cx dL_refusesPlaces_173 4 rfl ?_
  refine g_iload (pc := 175) cx dL_refusesPlaces_175 5 rfl ?_
  obtain ⟨q3, M1, hc2, hf⟩ := obn_some2 hf
  refine g_callVi (pc := 177) [.int x4, .int x5] [] cx lk_L_57 vw_X8 (LTramWires_o h0) (by decide) (c_X8_step h0 hc2) dL_refusesPlaces_177 (Nat.le_of_ble_eq_true rfl) ?_
  refine g_iconst (pc := 180) (v := (-1)) cx dL_refusesPlaces_180 (by decide) ?_
  refine g_icmp_eq (pc := 181) (tgt := 186) cx dL_refusesPlaces_181 rfl hf (fun hf => ?_) (fun hf => ?_)
  · refine g_iinc (pc := 186) cx [(4, .int (x4 + 1)), (0, .ref a0), (1, .int x1), (2, .int x2), (3, .int x3), (5, .int x5)] dL_refusesPlaces_186 4 rfl rfl (by decide) rfl ?_
    refine g_goto (pc := 189) (tgt := 134) cx dL_refusesPlaces_189 rfl ?_
    refine g_sub [1, 2, 3, 4, 0] [(0, .ref a0), (1, .int x1), (2, .int x2), (3, .int x3), (4, .int (x4 + 1))] rfl ?_
    exact hrc134 _ _ hf
  · refine g_sub [] [] rfl ?_
    exact w_L_refusesPlaces_184 cx en h0 hf
set_option maxHeartbeats 4000000 in
set_option maxRecDepth 100000 in
theorem w_L_refusesPlaces_158 {l : Launch} {w : Wp} {L : Ly} {E : Cx} {a0 : Nat} {rc2 : Mm → Int32 → OR} {rc134 : Mm → Int32 → OR} {x1 : Int32} {x2 : Int32} {x3 : Int32} {x4 : Int32} {s0 : Int32} {R0 : Int32 × Mm} (cx : Ok w L E RL cL_refusesPlaces 6 7) (en : En w L E (some .boolean) R0) (h0 : LTramWires w L (a0)) (hrc2 : ∀ (M : Mm) (x1 : Int32), rc2 M x1 = some R0 → G l w L E M [(0, .ref a0), (1, .int x1)] 2 []) (hrc134 : ∀ (M : Mm) (x4 : Int32), rc134 M x4 = some R0 → G l w L E M [(0, .ref a0), (1, .int x1), (2, .int x2), (3, .int x3), (4, .int x4)] 134 []) {M : Mm} (hf : b_L_refusesPlaces_158 a0 rc2 rc134 M x1 x2 x3 x4 s0 = some R0) : G l w L E M [(0, .ref a0), (1, .int x1), (2, .int x2), (3, .int x3), (4, .int x4)] 158 [.int s0] := by
  unfold b_L_refusesPlaces_158 at hf
  refine g_istore (pc := 158) cx [(5, .int s0), (0, .ref a0), (1, .int x1), (2, .int x2), (3, .int x3), (4, .int x4)] dL_refusesPlaces_158 (by decide) rfl ?_
  refine g_aload_n (pc := 160) cx dL_refusesPlaces_160 rfl 1 rfl ?_
  refine g_iload (pc := 161) cx dL_refusesPlaces_161 5 rfl ?_
  refine g_iload (pc := 163) cx dL_refusesPlaces_163 0 rfl ?_
  obtain ⟨q3, M1, hc2, hf⟩ := obn_some2 hf
  refine g_callVi (pc := 165) [.int x4, .int s0] [] cx lk_L_54 vw_X8 (LTramWires_o h0) (by decide) (c_X8_refusal h0 hc2) dL_refusesPlaces_165 (Nat.le_of_ble_eq_true rfl) ?_
  refine g_iconst (pc := 168) (v := (-1)) cx dL_refusesPlaces_168 (by decide) ?_
  refine g_icmp_ne (pc := 169) (tgt := 184) cx dL_refusesPlaces_169 rfl hf (fun hf => ?_) (fun hf => ?_)
  · refine g_sub [1, 2, 3, 4, 5, 0] [(0, .ref a0), (1, .int x1), (2, .int x2), (3, .int x3), (4, .int x4), (5, .int s0)] rfl ?_
    exact w_L_refusesPlaces_172 cx en h0 hrc2 hrc134 hf
  · refine g_sub [] [] rfl ?_
    exact w_L_refusesPlaces_184 cx en h0 hf
set_option maxHeartbeats 4000000 in
set_option maxRecDepth 100000 in
theorem w_L_refusesPlaces_153 {l : Launch} {w : Wp} {L : Ly} {E : Cx} {a0 : Nat} {rc2 : Mm → Int32 → OR} {rc134 : Mm → Int32 → OR} {x1 : Int32} {x2 : Int32} {x3 : Int32} {x4 : Int32} {R0 : Int32 × Mm} (cx : Ok w L E RL cL_refusesPlaces 6 7) (en : En w L E (some .boolean) R0) (h0 : LTramWires w L (a0)) (hrc2 : ∀ (M : Mm) (x1 : Int32), rc2 M x1 = some R0 → G l w L E M [(0, .ref a0), (1, .int x1)] 2 []) (hrc134 : ∀ (M : Mm) (x4 : Int32), rc134 M x4 = some R0 → G l w L E M [(0, .ref a0), (1, .int x1), (2, .int x2), (3, .int x3), (4, .int x4)] 134 []) {M : Mm} (hf : b_L_refusesPlaces_153 a0 rc2 rc134 M x1 x2 x3 x4 = some R0) : G l w L E M [(0, .ref a0), (1, .int x1), (2, .int x2), (3, .int x3), (4, .int x4)] 153 [] := by
  unfold b_L_refusesPlaces_153 at hf
  refine g_iload_n (pc := 153) cx dL_refusesPlaces_153 rfl 3 rfl ?_
  refine g_goto (pc := 154) (tgt := 158) cx dL_refusesPlaces_154 rfl ?_
  exact w_L_refusesPlaces_158 cx en h0 hrc2 hrc134 hf
set_option maxHeartbeats 4000000 in
set_option maxRecDepth 100000 in
theorem w_L_refusesPlaces_134 {l : Launch} {w : Wp} {L : Ly} {E : Cx} {a0 : Nat} {rc2 : Mm → Int32 → OR} {x1 : Int32} {x2 : Int32} {x3 : Int32} {R0 : Int32 × Mm} (cx : Ok w L E RL cL_refusesPlaces 6 7) (en : En w L E (some .boolean) R0) (h0 : LTramWires w L (a0)) (hrc2 : ∀ (M : Mm) (x1 : Int32), rc2 M x1 = some R0 → G l w L E M [(0, .ref a0), (1, .int x1)] 2 []) : ∀ (k : Nat) {M : Mm} {x4 : Int32}, l_L_refusesPlaces_134 a0 rc2 x1 x2 x3 k M x4 = some R0 → G l w L E M [(0, .ref a0), (1, .int x1), (2, .int x2), (3, .int x3), (4, .int x4)] 134 [] := by
  intro k
  induction k with
  | zero =>
    intro M x4 hf
    exact absurd hf (by simp [l_L_refusesPlaces_134])
  | succ k ih =>
    intro M x4 hf
    unfold l_L_refusesPlaces_134 at hf
    refine g_iload (pc := 134) cx dL_refusesPlaces_134 4 rfl ?_
    refine g_bipush (pc := 136) (v := 8) cx dL_refusesPlaces_136 (by decide) ?_
    refine g_icmp_ge (pc := 138) (tgt := 192) cx dL_refusesPlaces_138 rfl hf (fun hf => ?_) (fun hf => ?_)
    · refine g_iload (pc := 141) cx dL_refusesPlaces_141 4 rfl ?_
      refine g_iconst (pc := 143) (v := 2) cx dL_refusesPlaces_143 (by decide) ?_
      refine g_icmp_eq (pc := 144) (tgt := 153) cx dL_refusesPlaces_144 rfl hf (fun hf => ?_) (fun hf => ?_)
      · exact w_L_refusesPlaces_153 cx en h0 hrc2 (fun _ _ hf => ih hf) hf
      · refine g_iload (pc := 147) cx dL_refusesPlaces_147 4 rfl ?_
        refine g_iconst (pc := 149) (v := 3) cx dL_refusesPlaces_149 (by decide) ?_
        refine g_icmp_ne (pc := 150) (tgt := 157) cx dL_refusesPlaces_150 rfl hf (fun hf => ?_) (fun hf => ?_)
        · exact w_L_refusesPlaces_153 cx en h0 hrc2 (fun _ _ hf => ih hf) hf
        · refine g_iload_n (pc := 157) cx dL_refusesPlaces_157 rfl 2 rfl ?_
          exact w_L_refusesPlaces_158 cx en h0 hrc2 (fun _ _ hf => ih hf) hf
    · refine g_iinc (pc := 192) cx [(1, .int (x1 + 1)), (0, .ref a0), (2, .int x2), (3, .int x3), (4, .int x4)] dL_refusesPlaces_192 1 rfl rfl (by decide) rfl ?_
      refine g_goto (pc := 195) (tgt := 2) cx dL_refusesPlaces_195 rfl ?_
      refine g_sub [1, 0] [(0, .ref a0), (1, .int (x1 + 1))] rfl ?_
      exact hrc2 _ _ hf
set_option maxHeartbeats 4000000 in
set_option maxRecDepth 100000 in
theorem w_L_refusesPlaces_129 {l : Launch} {w : Wp} {L : Ly} {E : Cx} {a0 : Nat} {R0 : Int32 × Mm} (cx : Ok w L E RL cL_refusesPlaces 6 7) (en : En w L E (some .boolean) R0) (h0 : LTramWires w L (a0)) {M : Mm} (hf : b_L_refusesPlaces_129 a0 M = some R0) : G l w L E M [] 129 [] := by
  unfold b_L_refusesPlaces_129 at hf
  refine g_iconst (pc := 129) (v := 0) cx dL_refusesPlaces_129 (by decide) ?_
  exact g_zret (pc := 130) cx en dL_refusesPlaces_130 hf
set_option maxHeartbeats 4000000 in
set_option maxRecDepth 100000 in
theorem w_L_refusesPlaces_119 {l : Launch} {w : Wp} {L : Ly} {E : Cx} {a0 : Nat} {rc2 : Mm → Int32 → OR} {x1 : Int32} {x2 : Int32} {x3 : Int32} {R0 : Int32 × Mm} (cx : Ok w L E RL cL_refusesPlaces 6 7) (en : En w L E (some .boolean) R0) (h0 : LTramWires w L (a0)) (hrc2 : ∀ (M : Mm) (x1 : Int32), rc2 M x1 = some R0 → G l w L E M [(0, .ref a0), (1, .int x1)] 2 []) {M : Mm} (hf : b_L_refusesPlaces_119 a0 rc2 M x1 x2 x3 = some R0) : G l w L E M [(0, .ref a0), (1, .int x1), (2, .int x2), (3, .int x3)] 119 [] := by
  unfold b_L_refusesPlaces_119 at hf
  refine g_aload_n (pc := 119) cx dL_refusesPlaces_119 rfl 0 rfl ?_
  refine g_iload_n (pc := 120) cx dL_refusesPlaces_120 rfl 3 rfl ?_
  refine g_iconst (pc := 121) (v := 0) cx dL_refusesPlaces_121 (by decide) ?_
  obtain ⟨q3, M1, hc2, hf⟩ := obn_some2 hf
  refine g_callVi (pc := 122) [.int x3, .int 0] [] cx lk_L_29 vw_X8 (LTramWires_o h0) (by decide) (c_X8_isolatorOf h0 hc2) dL_refusesPlaces_122 (Nat.le_of_ble_eq_true rfl) ?_
  refine g_iconst (pc := 125) (v := (-1)) cx dL_refusesPlaces_125 (by decide) ?_
  refine g_icmp_eq (pc := 126) (tgt := 131) cx dL_refusesPlaces_126 rfl hf (fun hf => ?_) (fun hf => ?_)
  · refine g_iconst (pc := 131) (v := 0) cx dL_refusesPlaces_131 (by decide) ?_
    refine g_istore (pc := 132) cx [(4, .int 0), (0, .ref a0), (1, .int x1), (2, .int x2), (3, .int x3)] dL_refusesPlaces_132 (by decide) rfl ?_
    refine g_sub [1, 2, 3, 4, 0] [(0, .ref a0), (1, .int x1), (2, .int x2), (3, .int x3), (4, .int 0)] rfl ?_
    exact w_L_refusesPlaces_134 cx en h0 hrc2 FU hf
  · refine g_sub [] [] rfl ?_
    exact w_L_refusesPlaces_129 cx en h0 hf
set_option maxHeartbeats 4000000 in
set_option maxRecDepth 100000 in
theorem w_L_refusesPlaces_109 {l : Launch} {w : Wp} {L : Ly} {E : Cx} {a0 : Nat} {rc2 : Mm → Int32 → OR} {x1 : Int32} {x2 : Int32} {x3 : Int32} {R0 : Int32 × Mm} (cx : Ok w L E RL cL_refusesPlaces 6 7) (en : En w L E (some .boolean) R0) (h0 : LTramWires w L (a0)) (hrc2 : ∀ (M : Mm) (x1 : Int32), rc2 M x1 = some R0 → G l w L E M [(0, .ref a0), (1, .int x1)] 2 []) {M : Mm} (hf : b_L_refusesPlaces_109 a0 rc2 M x1 x2 x3 = some R0) : G l w L E M [(0, .ref a0), (1, .int x1), (2, .int x2), (3, .int x3)] 109 [] := by
  unfold b_L_refusesPlaces_109 at hf
  refine g_aload_n (pc := 109) cx dL_refusesPlaces_109 rfl 0 rfl ?_
  refine g_iconst (pc := 110) (v := 0) cx dL_refusesPlaces_110 (by decide) ?_
  refine g_iload_n (pc := 111) cx dL_refusesPlaces_111 rfl 2 rfl ?_
  obtain ⟨q3, M1, hc2, hf⟩ := obn_some2 hf
  refine g_callVi (pc := 112) [.int 0, .int x2] [] cx lk_L_51 vw_X8 (LTramWires_o h0) (by decide) (c_X8_isolator h0 hc2) dL_refusesPlaces_112 (Nat.le_of_ble_eq_true rfl) ?_
  refine g_iconst (pc := 115) (v := (-1)) cx dL_refusesPlaces_115 (by decide) ?_
  refine g_icmp_ne (pc := 116) (tgt := 129) cx dL_refusesPlaces_116 rfl hf (fun hf => ?_) (fun hf => ?_)
  · exact w_L_refusesPlaces_119 cx en h0 hrc2 hf
  · refine g_sub [] [] rfl ?_
    exact w_L_refusesPlaces_129 cx en h0 hf
set_option maxHeartbeats 4000000 in
set_option maxRecDepth 100000 in
theorem w_L_refusesPlaces_99 {l : Launch} {w : Wp} {L : Ly} {E : Cx} {a0 : Nat} {rc2 : Mm → Int32 → OR} {x1 : Int32} {x2 : Int32} {x3 : Int32} {R0 : Int32 × Mm} (cx : Ok w L E RL cL_refusesPlaces 6 7) (en : En w L E (some .boolean) R0) (h0 : LTramWires w L (a0)) (hrc2 : ∀ (M : Mm) (x1 : Int32), rc2 M x1 = some R0 → G l w L E M [(0, .ref a0), (1, .int x1)] 2 []) {M : Mm} (hf : b_L_refusesPlaces_99 a0 rc2 M x1 x2 x3 = some R0) : G l w L E M [(0, .ref a0), (1, .int x1), (2, .int x2), (3, .int x3)] 99 [] := by
  unfold b_L_refusesPlaces_99 at hf
  refine g_aload_n (pc := 99) cx dL_refusesPlaces_99 rfl 0 rfl ?_
  refine g_iload_n (pc := 100) cx dL_refusesPlaces_100 rfl 2 rfl ?_
  refine g_iconst (pc := 101) (v := 0) cx dL_refusesPlaces_101 (by decide) ?_
  obtain ⟨q3, M1, hc2, hf⟩ := obn_some2 hf
  refine g_callVi (pc := 102) [.int x2, .int 0] [] cx lk_L_51 vw_X8 (LTramWires_o h0) (by decide) (c_X8_isolator h0 hc2) dL_refusesPlaces_102 (Nat.le_of_ble_eq_true rfl) ?_
  refine g_iconst (pc := 105) (v := (-1)) cx dL_refusesPlaces_105 (by decide) ?_
  refine g_icmp_ne (pc := 106) (tgt := 129) cx dL_refusesPlaces_106 rfl hf (fun hf => ?_) (fun hf => ?_)
  · exact w_L_refusesPlaces_109 cx en h0 hrc2 hf
  · refine g_sub [] [] rfl ?_
    exact w_L_refusesPlaces_129 cx en h0 hf
set_option maxHeartbeats 4000000 in
set_option maxRecDepth 100000 in
theorem w_L_refusesPlaces_90 {l : Launch} {w : Wp} {L : Ly} {E : Cx} {a0 : Nat} {rc2 : Mm → Int32 → OR} {x1 : Int32} {x2 : Int32} {x3 : Int32} {R0 : Int32 × Mm} (cx : Ok w L E RL cL_refusesPlaces 6 7) (en : En w L E (some .boolean) R0) (h0 : LTramWires w L (a0)) (hrc2 : ∀ (M : Mm) (x1 : Int32), rc2 M x1 = some R0 → G l w L E M [(0, .ref a0), (1, .int x1)] 2 []) {M : Mm} (hf : b_L_refusesPlaces_90 a0 rc2 M x1 x2 x3 = some R0) : G l w L E M [(0, .ref a0), (1, .int x1), (2, .int x2), (3, .int x3)] 90 [] := by
  unfold b_L_refusesPlaces_90 at hf
  refine g_aload_n (pc := 90) cx dL_refusesPlaces_90 rfl 0 rfl ?_
  refine g_iload_n (pc := 91) cx dL_refusesPlaces_91 rfl 2 rfl ?_
  obtain ⟨q3, M1, hc2, hf⟩ := obn_some2 hf
  refine g_callVi (pc := 92) [.int x2] [] cx lk_L_48 vw_X8 (LTramWires_o h0) (by decide) (c_X8_fetch h0 hc2) dL_refusesPlaces_92 (Nat.le_of_ble_eq_true rfl) ?_
  refine g_iconst (pc := 95) (v := (-1)) cx dL_refusesPlaces_95 (by decide) ?_
  refine g_icmp_ne (pc := 96) (tgt := 129) cx dL_refusesPlaces_96 rfl hf (fun hf => ?_) (fun hf => ?_)
  · exact w_L_refusesPlaces_99 cx en h0 hrc2 hf
  · refine g_sub [] [] rfl ?_
    exact w_L_refusesPlaces_129 cx en h0 hf
set_option maxHeartbeats 4000000 in
set_option maxRecDepth 100000 in
theorem w_L_refusesPlaces_80 {l : Launch} {w : Wp} {L : Ly} {E : Cx} {a0 : Nat} {rc2 : Mm → Int32 → OR} {x1 : Int32} {x2 : Int32} {x3 : Int32} {R0 : Int32 × Mm} (cx : Ok w L E RL cL_refusesPlaces 6 7) (en : En w L E (some .boolean) R0) (h0 : LTramWires w L (a0)) (hrc2 : ∀ (M : Mm) (x1 : Int32), rc2 M x1 = some R0 → G l w L E M [(0, .ref a0), (1, .int x1)] 2 []) {M : Mm} (hf : b_L_refusesPlaces_80 a0 rc2 M x1 x2 x3 = some R0) : G l w L E M [(0, .ref a0), (1, .int x1), (2, .int x2), (3, .int x3)] 80 [] := by
  unfold b_L_refusesPlaces_80 at hf
  refine g_aload_n (pc := 80) cx dL_refusesPlaces_80 rfl 0 rfl ?_
  refine g_iload_n (pc := 81) cx dL_refusesPlaces_81 rfl 2 rfl ?_
  refine g_iconst (pc := 82) (v := 0) cx dL_refusesPlaces_82 (by decide) ?_
  obtain ⟨q3, M1, hc2, hf⟩ := obn_some2 hf
  refine g_callVi (pc := 83) [.int x2, .int 0] [] cx lk_L_45 vw_X8 (LTramWires_o h0) (by decide) (c_X8_leave h0 hc2) dL_refusesPlaces_83 (Nat.le_of_ble_eq_true rfl) ?_
  refine g_iconst (pc := 86) (v := (-1)) cx dL_refusesPlaces_86 (by decide) ?_
  refine g_icmp_ne (pc := 87) (tgt := 129) cx dL_refusesPlaces_87 rfl hf (fun hf => ?_) (fun hf => ?_)
  · exact w_L_refusesPlaces_90 cx en h0 hrc2 hf
  · refine g_sub [] [] rfl ?_
    exact w_L_refusesPlaces_129 cx en h0 hf
set_option maxHeartbeats 4000000 in
set_option maxRecDepth 100000 in
theorem w_L_refusesPlaces_64 {l : Launch} {w : Wp} {L : Ly} {E : Cx} {a0 : Nat} {rc2 : Mm → Int32 → OR} {x1 : Int32} {x2 : Int32} {x3 : Int32} {R0 : Int32 × Mm} (cx : Ok w L E RL cL_refusesPlaces 6 7) (en : En w L E (some .boolean) R0) (h0 : LTramWires w L (a0)) (hrc2 : ∀ (M : Mm) (x1 : Int32), rc2 M x1 = some R0 → G l w L E M [(0, .ref a0), (1, .int x1)] 2 []) {M : Mm} (hf : b_L_refusesPlaces_64 a0 rc2 M x1 x2 x3 = some R0) : G l w L E M [(0, .ref a0), (1, .int x1), (2, .int x2), (3, .int x3)] 64 [] := by
  unfold b_L_refusesPlaces_64 at hf
  refine g_aload_n (pc := 64) cx dL_refusesPlaces_64 rfl 0 rfl ?_
  refine g_iload_n (pc := 65) cx dL_refusesPlaces_65 rfl 2 rfl ?_
  refine g_iconst (pc := 66) (v := 0) cx dL_refusesPlaces_66 (by decide) ?_
  refine g_aload_n (pc := 67) cx dL_refusesPlaces_67 rfl 0 rfl ?_
  refine g_bipush (pc := 68) (v := 8) cx dL_refusesPlaces_68 (by decide) ?_
  obtain ⟨q3, M1, hc2, hf⟩ := obn_some2 hf
  refine g_callVi (pc := 70) [.int 8] [.int 0, .int x2, .ref a0] cx lk_L_13 vw_X8 (LTramWires_o h0) (by decide) (c_X8_count h0 hc2) dL_refusesPlaces_70 (Nat.le_of_ble_eq_true rfl) ?_
  obtain ⟨q6, M4, hc5, hf⟩ := obn_some2 hf
  refine g_callVi (pc := 73) [.int x2, .int 0, .int q3] [] cx lk_L_41 vw_X8 (LTramWires_o h0) (by decide) (c_X8_enter h0 hc5) dL_refusesPlaces_73 (Nat.le_of_ble_eq_true rfl) ?_
  refine g_iconst (pc := 76) (v := (-1)) cx dL_refusesPlaces_76 (by decide) ?_
  refine g_icmp_ne (pc := 77) (tgt := 129) cx dL_refusesPlaces_77 rfl hf (fun hf => ?_) (fun hf => ?_)
  · exact w_L_refusesPlaces_80 cx en h0 hrc2 hf
  · refine g_sub [] [] rfl ?_
    exact w_L_refusesPlaces_129 cx en h0 hf
set_option maxHeartbeats 4000000 in
set_option maxRecDepth 100000 in
theorem w_L_refusesPlaces_55 {l : Launch} {w : Wp} {L : Ly} {E : Cx} {a0 : Nat} {rc2 : Mm → Int32 → OR} {x1 : Int32} {x2 : Int32} {x3 : Int32} {R0 : Int32 × Mm} (cx : Ok w L E RL cL_refusesPlaces 6 7) (en : En w L E (some .boolean) R0) (h0 : LTramWires w L (a0)) (hrc2 : ∀ (M : Mm) (x1 : Int32), rc2 M x1 = some R0 → G l w L E M [(0, .ref a0), (1, .int x1)] 2 []) {M : Mm} (hf : b_L_refusesPlaces_55 a0 rc2 M x1 x2 x3 = some R0) : G l w L E M [(0, .ref a0), (1, .int x1), (2, .int x2), (3, .int x3)] 55 [] := by
  unfold b_L_refusesPlaces_55 at hf
  refine g_aload_n (pc := 55) cx dL_refusesPlaces_55 rfl 0 rfl ?_
  refine g_iload_n (pc := 56) cx dL_refusesPlaces_56 rfl 2 rfl ?_
  obtain ⟨q3, M1, hc2, hf⟩ := obn_some2 hf
  refine g_callVi (pc := 57) [.int x2] [] cx lk_L_38 vw_X8 (LTramWires_o h0) (by decide) (c_X8_canPlan h0 hc2) dL_refusesPlaces_57 (Nat.le_of_ble_eq_true rfl) ?_
  refine g_iconst (pc := 60) (v := (-1)) cx dL_refusesPlaces_60 (by decide) ?_
  refine g_icmp_ne (pc := 61) (tgt := 129) cx dL_refusesPlaces_61 rfl hf (fun hf => ?_) (fun hf => ?_)
  · exact w_L_refusesPlaces_64 cx en h0 hrc2 hf
  · refine g_sub [] [] rfl ?_
    exact w_L_refusesPlaces_129 cx en h0 hf
set_option maxHeartbeats 4000000 in
set_option maxRecDepth 100000 in
theorem w_L_refusesPlaces_45 {l : Launch} {w : Wp} {L : Ly} {E : Cx} {a0 : Nat} {rc2 : Mm → Int32 → OR} {x1 : Int32} {x2 : Int32} {x3 : Int32} {R0 : Int32 × Mm} (cx : Ok w L E RL cL_refusesPlaces 6 7) (en : En w L E (some .boolean) R0) (h0 : LTramWires w L (a0)) (hrc2 : ∀ (M : Mm) (x1 : Int32), rc2 M x1 = some R0 → G l w L E M [(0, .ref a0), (1, .int x1)] 2 []) {M : Mm} (hf : b_L_refusesPlaces_45 a0 rc2 M x1 x2 x3 = some R0) : G l w L E M [(0, .ref a0), (1, .int x1), (2, .int x2), (3, .int x3)] 45 [] := by
  unfold b_L_refusesPlaces_45 at hf
  refine g_aload_n (pc := 45) cx dL_refusesPlaces_45 rfl 0 rfl ?_
  refine g_iload_n (pc := 46) cx dL_refusesPlaces_46 rfl 2 rfl ?_
  refine g_iconst (pc := 47) (v := 0) cx dL_refusesPlaces_47 (by decide) ?_
  obtain ⟨q3, M1, hc2, hf⟩ := obn_some2 hf
  refine g_callVi (pc := 48) [.int x2, .int 0] [] cx lk_L_35 vw_X8 (LTramWires_o h0) (by decide) (c_X8_plan h0 hc2) dL_refusesPlaces_48 (Nat.le_of_ble_eq_true rfl) ?_
  refine g_iconst (pc := 51) (v := (-1)) cx dL_refusesPlaces_51 (by decide) ?_
  refine g_icmp_ne (pc := 52) (tgt := 129) cx dL_refusesPlaces_52 rfl hf (fun hf => ?_) (fun hf => ?_)
  · exact w_L_refusesPlaces_55 cx en h0 hrc2 hf
  · refine g_sub [] [] rfl ?_
    exact w_L_refusesPlaces_129 cx en h0 hf
set_option maxHeartbeats 4000000 in
set_option maxRecDepth 100000 in
theorem w_L_refusesPlaces_34 {l : Launch} {w : Wp} {L : Ly} {E : Cx} {a0 : Nat} {rc2 : Mm → Int32 → OR} {x1 : Int32} {x2 : Int32} {s0 : Int32} {R0 : Int32 × Mm} (cx : Ok w L E RL cL_refusesPlaces 6 7) (en : En w L E (some .boolean) R0) (h0 : LTramWires w L (a0)) (hrc2 : ∀ (M : Mm) (x1 : Int32), rc2 M x1 = some R0 → G l w L E M [(0, .ref a0), (1, .int x1)] 2 []) {M : Mm} (hf : b_L_refusesPlaces_34 a0 rc2 M x1 x2 s0 = some R0) : G l w L E M [(0, .ref a0), (1, .int x1), (2, .int x2)] 34 [.int s0] := by
  unfold b_L_refusesPlaces_34 at hf
  refine g_istore_n (pc := 34) cx [(3, .int s0), (0, .ref a0), (1, .int x1), (2, .int x2)] dL_refusesPlaces_34 rfl (by decide) rfl ?_
  refine g_aload_n (pc := 35) cx dL_refusesPlaces_35 rfl 1 rfl ?_
  refine g_iload_n (pc := 36) cx dL_refusesPlaces_36 rfl 3 rfl ?_
  refine g_iconst (pc := 37) (v := 0) cx dL_refusesPlaces_37 (by decide) ?_
  obtain ⟨q3, M1, hc2, hf⟩ := obn_some2 hf
  refine g_callVi (pc := 38) [.int x2, .int 0] [] cx lk_L_25 vw_X8 (LTramWires_o h0) (by decide) (c_X8_sectionOf h0 hc2) dL_refusesPlaces_38 (Nat.le_of_ble_eq_true rfl) ?_
  refine g_iconst (pc := 41) (v := (-1)) cx dL_refusesPlaces_41 (by decide) ?_
  refine g_icmp_ne (pc := 42) (tgt := 129) cx dL_refusesPlaces_42 rfl hf (fun hf => ?_) (fun hf => ?_)
  · refine g_sub [1, 2, 3, 0] [(0, .ref a0), (1, .int x1), (2, .int x2), (3, .int s0)] rfl ?_
    exact w_L_refusesPlaces_45 cx en h0 hrc2 hf
  · refine g_sub [] [] rfl ?_
    exact w_L_refusesPlaces_129 cx en h0 hf
set_option maxHeartbeats 4000000 in
set_option maxRecDepth 100000 in
theorem w_L_refusesPlaces_25 {l : Launch} {w : Wp} {L : Ly} {E : Cx} {a0 : Nat} {rc2 : Mm → Int32 → OR} {x1 : Int32} {x2 : Int32} {R0 : Int32 × Mm} (cx : Ok w L E RL cL_refusesPlaces 6 7) (en : En w L E (some .boolean) R0) (h0 : LTramWires w L (a0)) (hrc2 : ∀ (M : Mm) (x1 : Int32), rc2 M x1 = some R0 → G l w L E M [(0, .ref a0), (1, .int x1)] 2 []) {M : Mm} (hf : b_L_refusesPlaces_25 a0 rc2 M x1 x2 = some R0) : G l w L E M [(0, .ref a0), (1, .int x1), (2, .int x2)] 25 [] := by
  unfold b_L_refusesPlaces_25 at hf
  refine g_aload_n (pc := 25) cx dL_refusesPlaces_25 rfl 0 rfl ?_
  refine g_iconst (pc := 26) (v := 1) cx dL_refusesPlaces_26 (by decide) ?_
  obtain ⟨q3, M1, hc2, hf⟩ := obn_some2 hf
  refine g_callVi (pc := 27) [.int 1] [] cx lk_L_13 vw_X8 (LTramWires_o h0) (by decide) (c_X8_count h0 hc2) dL_refusesPlaces_27 (Nat.le_of_ble_eq_true rfl) ?_
  refine g_goto (pc := 30) (tgt := 34) cx dL_refusesPlaces_30 rfl ?_
  exact w_L_refusesPlaces_34 cx en h0 hrc2 hf
set_option maxHeartbeats 4000000 in
set_option maxRecDepth 100000 in
theorem w_L_refusesPlaces_20 {l : Launch} {w : Wp} {L : Ly} {E : Cx} {a0 : Nat} {rc2 : Mm → Int32 → OR} {x1 : Int32} {s0 : Int32} {R0 : Int32 × Mm} (cx : Ok w L E RL cL_refusesPlaces 6 7) (en : En w L E (some .boolean) R0) (h0 : LTramWires w L (a0)) (hrc2 : ∀ (M : Mm) (x1 : Int32), rc2 M x1 = some R0 → G l w L E M [(0, .ref a0), (1, .int x1)] 2 []) {M : Mm} (hf : b_L_refusesPlaces_20 a0 rc2 M x1 s0 = some R0) : G l w L E M [(0, .ref a0), (1, .int x1)] 20 [.int s0] := by
  unfold b_L_refusesPlaces_20 at hf
  refine g_istore_n (pc := 20) cx [(2, .int s0), (0, .ref a0), (1, .int x1)] dL_refusesPlaces_20 rfl (by decide) rfl ?_
  refine g_iload_n (pc := 21) cx dL_refusesPlaces_21 rfl 2 rfl ?_
  refine g_if_ne (pc := 22) (tgt := 33) cx dL_refusesPlaces_22 rfl hf (fun hf => ?_) (fun hf => ?_)
  · refine g_sub [1, 2, 0] [(0, .ref a0), (1, .int x1), (2, .int s0)] rfl ?_
    exact w_L_refusesPlaces_25 cx en h0 hrc2 hf
  · refine g_iconst (pc := 33) (v := (-1)) cx dL_refusesPlaces_33 (by decide) ?_
    refine g_sub [1, 2, 0] [(0, .ref a0), (1, .int x1), (2, .int s0)] rfl ?_
    exact w_L_refusesPlaces_34 cx en h0 hrc2 hf
set_option maxHeartbeats 4000000 in
set_option maxRecDepth 100000 in
theorem w_L_refusesPlaces_11 {l : Launch} {w : Wp} {L : Ly} {E : Cx} {a0 : Nat} {rc2 : Mm → Int32 → OR} {x1 : Int32} {R0 : Int32 × Mm} (cx : Ok w L E RL cL_refusesPlaces 6 7) (en : En w L E (some .boolean) R0) (h0 : LTramWires w L (a0)) (hrc2 : ∀ (M : Mm) (x1 : Int32), rc2 M x1 = some R0 → G l w L E M [(0, .ref a0), (1, .int x1)] 2 []) {M : Mm} (hf : b_L_refusesPlaces_11 a0 rc2 M x1 = some R0) : G l w L E M [(0, .ref a0), (1, .int x1)] 11 [] := by
  unfold b_L_refusesPlaces_11 at hf
  refine g_aload_n (pc := 11) cx dL_refusesPlaces_11 rfl 0 rfl ?_
  refine g_iconst (pc := 12) (v := 0) cx dL_refusesPlaces_12 (by decide) ?_
  obtain ⟨q3, M1, hc2, hf⟩ := obn_some2 hf
  refine g_callVi (pc := 13) [.int 0] [] cx lk_L_13 vw_X8 (LTramWires_o h0) (by decide) (c_X8_count h0 hc2) dL_refusesPlaces_13 (Nat.le_of_ble_eq_true rfl) ?_
  refine g_goto (pc := 16) (tgt := 20) cx dL_refusesPlaces_16 rfl ?_
  exact w_L_refusesPlaces_20 cx en h0 hrc2 hf
set_option maxHeartbeats 4000000 in
set_option maxRecDepth 100000 in
theorem w_L_refusesPlaces_245 {l : Launch} {w : Wp} {L : Ly} {E : Cx} {a0 : Nat} {s0 : Int32} {R0 : Int32 × Mm} (cx : Ok w L E RL cL_refusesPlaces 6 7) (en : En w L E (some .boolean) R0) (h0 : LTramWires w L (a0)) {M : Mm} (hf : b_L_refusesPlaces_245 a0 M s0 = some R0) : G l w L E M [] 245 [.int s0] := by
  unfold b_L_refusesPlaces_245 at hf
  exact g_zret (pc := 245) cx en dL_refusesPlaces_245 hf
set_option maxHeartbeats 4000000 in
set_option maxRecDepth 100000 in
theorem w_L_refusesPlaces_244 {l : Launch} {w : Wp} {L : Ly} {E : Cx} {a0 : Nat} {R0 : Int32 × Mm} (cx : Ok w L E RL cL_refusesPlaces 6 7) (en : En w L E (some .boolean) R0) (h0 : LTramWires w L (a0)) {M : Mm} (hf : b_L_refusesPlaces_244 a0 M = some R0) : G l w L E M [] 244 [] := by
  unfold b_L_refusesPlaces_244 at hf
  refine g_iconst (pc := 244) (v := 0) cx dL_refusesPlaces_244 (by decide) ?_
  exact w_L_refusesPlaces_245 cx en h0 hf
set_option maxHeartbeats 4000000 in
set_option maxRecDepth 100000 in
theorem w_L_refusesPlaces_230 {l : Launch} {w : Wp} {L : Ly} {E : Cx} {a0 : Nat} {R0 : Int32 × Mm} (cx : Ok w L E RL cL_refusesPlaces 6 7) (en : En w L E (some .boolean) R0) (h0 : LTramWires w L (a0)) {M : Mm} (hf : b_L_refusesPlaces_230 a0 M = some R0) : G l w L E M [(0, .ref a0)] 230 [] := by
  unfold b_L_refusesPlaces_230 at hf
  refine g_aload_n (pc := 230) cx dL_refusesPlaces_230 rfl 0 rfl ?_
  refine g_iconst (pc := 231) (v := (-1)) cx dL_refusesPlaces_231 (by decide) ?_
  refine g_iconst (pc := 232) (v := 0) cx dL_refusesPlaces_232 (by decide) ?_
  obtain ⟨q3, M1, hc2, hf⟩ := obn_some2 hf
  refine g_callVi (pc := 233) [.int (-1), .int 0] [] cx lk_L_57 vw_X8 (LTramWires_o h0) (by decide) (c_X8_step h0 hc2) dL_refusesPlaces_233 (Nat.le_of_ble_eq_true rfl) ?_
  refine g_iconst (pc := 236) (v := (-1)) cx dL_refusesPlaces_236 (by decide) ?_
  refine g_icmp_ne (pc := 237) (tgt := 244) cx dL_refusesPlaces_237 rfl hf (fun hf => ?_) (fun hf => ?_)
  · refine g_iconst (pc := 240) (v := 1) cx dL_refusesPlaces_240 (by decide) ?_
    refine g_goto (pc := 241) (tgt := 245) cx dL_refusesPlaces_241 rfl ?_
    refine g_sub [] [] rfl ?_
    exact w_L_refusesPlaces_245 cx en h0 hf
  · refine g_sub [] [] rfl ?_
    exact w_L_refusesPlaces_244 cx en h0 hf
set_option maxHeartbeats 4000000 in
set_option maxRecDepth 100000 in
theorem w_L_refusesPlaces_219 {l : Launch} {w : Wp} {L : Ly} {E : Cx} {a0 : Nat} {R0 : Int32 × Mm} (cx : Ok w L E RL cL_refusesPlaces 6 7) (en : En w L E (some .boolean) R0) (h0 : LTramWires w L (a0)) {M : Mm} (hf : b_L_refusesPlaces_219 a0 M = some R0) : G l w L E M [(0, .ref a0)] 219 [] := by
  unfold b_L_refusesPlaces_219 at hf
  refine g_aload_n (pc := 219) cx dL_refusesPlaces_219 rfl 0 rfl ?_
  refine g_bipush (pc := 220) (v := 8) cx dL_refusesPlaces_220 (by decide) ?_
  refine g_iconst (pc := 222) (v := 0) cx dL_refusesPlaces_222 (by decide) ?_
  obtain ⟨q3, M1, hc2, hf⟩ := obn_some2 hf
  refine g_callVi (pc := 223) [.int 8, .int 0] [] cx lk_L_57 vw_X8 (LTramWires_o h0) (by decide) (c_X8_step h0 hc2) dL_refusesPlaces_223 (Nat.le_of_ble_eq_true rfl) ?_
  refine g_iconst (pc := 226) (v := (-1)) cx dL_refusesPlaces_226 (by decide) ?_
  refine g_icmp_ne (pc := 227) (tgt := 244) cx dL_refusesPlaces_227 rfl hf (fun hf => ?_) (fun hf => ?_)
  · exact w_L_refusesPlaces_230 cx en h0 hf
  · refine g_sub [] [] rfl ?_
    exact w_L_refusesPlaces_244 cx en h0 hf
set_option maxHeartbeats 4000000 in
set_option maxRecDepth 100000 in
theorem w_L_refusesPlaces_209 {l : Launch} {w : Wp} {L : Ly} {E : Cx} {a0 : Nat} {R0 : Int32 × Mm} (cx : Ok w L E RL cL_refusesPlaces 6 7) (en : En w L E (some .boolean) R0) (h0 : LTramWires w L (a0)) {M : Mm} (hf : b_L_refusesPlaces_209 a0 M = some R0) : G l w L E M [(0, .ref a0)] 209 [] := by
  unfold b_L_refusesPlaces_209 at hf
  refine g_aload_n (pc := 209) cx dL_refusesPlaces_209 rfl 0 rfl ?_
  refine g_iconst (pc := 210) (v := (-1)) cx dL_refusesPlaces_210 (by decide) ?_
  refine g_iconst (pc := 211) (v := 0) cx dL_refusesPlaces_211 (by decide) ?_
  obtain ⟨q3, M1, hc2, hf⟩ := obn_some2 hf
  refine g_callVi (pc := 212) [.int (-1), .int 0] [] cx lk_L_54 vw_X8 (LTramWires_o h0) (by decide) (c_X8_refusal h0 hc2) dL_refusesPlaces_212 (Nat.le_of_ble_eq_true rfl) ?_
  refine g_iconst (pc := 215) (v := (-1)) cx dL_refusesPlaces_215 (by decide) ?_
  refine g_icmp_ne (pc := 216) (tgt := 244) cx dL_refusesPlaces_216 rfl hf (fun hf => ?_) (fun hf => ?_)
  · exact w_L_refusesPlaces_219 cx en h0 hf
  · refine g_sub [] [] rfl ?_
    exact w_L_refusesPlaces_244 cx en h0 hf
set_option maxHeartbeats 4000000 in
set_option maxRecDepth 100000 in
theorem w_L_refusesPlaces_2 {l : Launch} {w : Wp} {L : Ly} {E : Cx} {a0 : Nat} {R0 : Int32 × Mm} (cx : Ok w L E RL cL_refusesPlaces 6 7) (en : En w L E (some .boolean) R0) (h0 : LTramWires w L (a0)) : ∀ (k : Nat) {M : Mm} {x1 : Int32}, l_L_refusesPlaces_2 a0 k M x1 = some R0 → G l w L E M [(0, .ref a0), (1, .int x1)] 2 [] := by
  intro k
  induction k with
  | zero =>
    intro M x1 hf
    exact absurd hf (by simp [l_L_refusesPlaces_2])
  | succ k ih =>
    intro M x1 hf
    unfold l_L_refusesPlaces_2 at hf
    refine g_iload_n (pc := 2) cx dL_refusesPlaces_2 rfl 1 rfl ?_
    refine g_iconst (pc := 3) (v := 2) cx dL_refusesPlaces_3 (by decide) ?_
    refine g_icmp_ge (pc := 4) (tgt := 198) cx dL_refusesPlaces_4 rfl hf (fun hf => ?_) (fun hf => ?_)
    · refine g_iload_n (pc := 7) cx dL_refusesPlaces_7 rfl 1 rfl ?_
      refine g_if_ne (pc := 8) (tgt := 19) cx dL_refusesPlaces_8 rfl hf (fun hf => ?_) (fun hf => ?_)
      · exact w_L_refusesPlaces_11 cx en h0 (fun _ _ hf => ih hf) hf
      · refine g_iconst (pc := 19) (v := (-1)) cx dL_refusesPlaces_19 (by decide) ?_
        exact w_L_refusesPlaces_20 cx en h0 (fun _ _ hf => ih hf) hf
    · refine g_aload_n (pc := 198) cx dL_refusesPlaces_198 rfl 0 rfl ?_
      refine g_bipush (pc := 199) (v := 8) cx dL_refusesPlaces_199 (by decide) ?_
      refine g_iconst (pc := 201) (v := 0) cx dL_refusesPlaces_201 (by decide) ?_
      obtain ⟨q3, M1, hc2, hf⟩ := obn_some2 hf
      refine g_callVi (pc := 202) [.int 8, .int 0] [] cx lk_L_54 vw_X8 (LTramWires_o h0) (by decide) (c_X8_refusal h0 hc2) dL_refusesPlaces_202 (Nat.le_of_ble_eq_true rfl) ?_
      refine g_iconst (pc := 205) (v := (-1)) cx dL_refusesPlaces_205 (by decide) ?_
      refine g_icmp_ne (pc := 206) (tgt := 244) cx dL_refusesPlaces_206 rfl hf (fun hf => ?_) (fun hf => ?_)
      · refine g_sub [0] [(0, .ref a0)] rfl ?_
        exact w_L_refusesPlaces_209 cx en h0 hf
      · refine g_sub [] [] rfl ?_
        exact w_L_refusesPlaces_244 cx en h0 hf
set_option maxHeartbeats 4000000 in
set_option maxRecDepth 100000 in
theorem c_L_refusesPlaces {l : Launch} {w : Wp} {L : Ly} {a0 : Nat} {M : Mm} {R0 : Int32 × Mm} (h0 : LTramWires w L (a0)) (hf : f_L_refusesPlaces a0 M = some R0) : CT l w L yL_refusesPlaces cL_refusesPlaces 6 (some .boolean) 7 [.ref a0] M R0 := by
  unfold f_L_refusesPlaces at hf
  refine CT_of pn_L (Nat.le_of_ble_eq_true rfl) (fun E cx en => ?_)
  have cx : Ok w L E RL cL_refusesPlaces 6 7 := cx
  show G l w L E M [(0, .ref a0)] 0 []
  refine g_iconst (pc := 0) (v := 0) cx dL_refusesPlaces_0 (by decide) ?_
  refine g_istore_n (pc := 1) cx [(1, .int 0), (0, .ref a0)] dL_refusesPlaces_1 rfl (by decide) rfl ?_
  refine g_sub [1, 0] [(0, .ref a0), (1, .int 0)] rfl ?_
  exact w_L_refusesPlaces_2 cx en h0 FU hf
/-! L_refused -/
def b_L_refused_211 (a0 : Nat) (M : Mm) : OR := zrk 0 (some (0, M))
def b_L_refused_425 (a0 : Nat) (M : Mm) (s0 : Int32) : OR := zrk s0 (some (s0, M))
def b_L_refused_391 (a0 : Nat) (M : Mm) (j1 : Int64) : OR := obn (f_L_state a0 M) fun q3 M1 => (obn (f_X8_count a0 M1 14) fun q6 M4 => (obn (f_L_mixed M4 q3 (Int32.toInt64 q6)) fun q9 M7 => (obn (f_X8_count a0 M7 15) fun q12 M10 => (obn (f_L_mixed M10 q9 (Int32.toInt64 q12)) fun q15 M13 => (if (jcmp q15 j1) = 0 then b_L_refused_425 a0 M13 1 else b_L_refused_425 a0 M13 0)))))
def b_L_refused_389 (a0 : Nat) (M : Mm) : OR := zrk 0 (some (0, M))
def b_L_refused_379 (a0 : Nat) (M : Mm) (j1 : Int64) : OR := obn (f_X8_isolatorOf a0 M 0 (-1)) fun q3 M1 => (if q3 = (-1) then b_L_refused_391 a0 M1 j1 else b_L_refused_389 a0 M1)
def b_L_refused_368 (a0 : Nat) (M : Mm) (j1 : Int64) : OR := obn (f_X8_isolatorOf a0 M 0 6) fun q3 M1 => (if q3 = (-1) then b_L_refused_379 a0 M1 j1 else b_L_refused_389 a0 M1)
def b_L_refused_360 (a0 : Nat) (M : Mm) (j1 : Int64) : OR := obn (f_X8_count a0 M 1) fun q3 M1 => (if 0 < q3 then b_L_refused_368 a0 M1 j1 else b_L_refused_391 a0 M1 j1)
def b_L_refused_358 (a0 : Nat) (M : Mm) : OR := zrk 0 (some (0, M))
def b_L_refused_347 (a0 : Nat) (M : Mm) (j1 : Int64) : OR := obn (f_X8_leave a0 M 0 51) fun q3 M1 => (if q3 = (-1) then b_L_refused_360 a0 M1 j1 else b_L_refused_358 a0 M1)
def b_L_refused_337 (a0 : Nat) (M : Mm) (j1 : Int64) : OR := obn (f_X8_leave a0 M 0 (-1)) fun q3 M1 => (if q3 = (-1) then b_L_refused_347 a0 M1 j1 else b_L_refused_358 a0 M1)
def b_L_refused_325 (a0 : Nat) (M : Mm) (j1 : Int64) : OR := obn (f_X8_enter a0 M 0 0 100001) fun q3 M1 => (if q3 = (-1) then b_L_refused_337 a0 M1 j1 else b_L_refused_358 a0 M1)
def b_L_refused_307 (a0 : Nat) (M : Mm) (j1 : Int64) : OR := obn (f_X8_count a0 M 8) fun q3 M1 => (obn (f_X8_enter a0 M1 0 0 (q3 - 1)) fun q6 M4 => (if q6 = (-1) then b_L_refused_325 a0 M4 j1 else b_L_refused_358 a0 M4))
def b_L_refused_290 (a0 : Nat) (M : Mm) (j1 : Int64) : OR := obn (f_X8_count a0 M 8) fun q3 M1 => (obn (f_X8_enter a0 M1 0 51 q3) fun q6 M4 => (if q6 = (-1) then b_L_refused_307 a0 M4 j1 else b_L_refused_358 a0 M4))
def b_L_refused_274 (a0 : Nat) (M : Mm) (j1 : Int64) : OR := obn (f_X8_count a0 M 8) fun q3 M1 => (obn (f_X8_enter a0 M1 0 (-1) q3) fun q6 M4 => (if q6 = (-1) then b_L_refused_290 a0 M4 j1 else b_L_refused_358 a0 M4))
def b_L_refused_262 (a0 : Nat) (M : Mm) (j1 : Int64) : OR := obn (f_X8_plan a0 M 0 19) fun q3 M1 => (if q3 = (-4) then b_L_refused_274 a0 M1 j1 else b_L_refused_358 a0 M1)
def b_L_refused_252 (a0 : Nat) (M : Mm) (j1 : Int64) : OR := obn (f_X8_plan a0 M 0 (-1)) fun q3 M1 => (if q3 = (-1) then b_L_refused_262 a0 M1 j1 else b_L_refused_358 a0 M1)
def b_L_refused_242 (a0 : Nat) (M : Mm) (j1 : Int64) : OR := obn (f_X8_sectionOf a0 M 0 (-1)) fun q3 M1 => (if q3 = (-1) then b_L_refused_252 a0 M1 j1 else b_L_refused_358 a0 M1)
def b_L_refused_231 (a0 : Nat) (M : Mm) (j1 : Int64) : OR := obn (f_X8_sectionOf a0 M 0 11) fun q3 M1 => (if q3 = (-1) then b_L_refused_242 a0 M1 j1 else b_L_refused_358 a0 M1)
def b_L_refused_221 (a0 : Nat) (M : Mm) (j1 : Int64) : OR := obn (f_X8_isolator a0 M 0 0) fun q3 M1 => (if q3 = (-1) then b_L_refused_231 a0 M1 j1 else b_L_refused_358 a0 M1)
def b_L_refused_202 (a0 : Nat) (M : Mm) (j1 : Int64) : OR := obn (f_X8_fault a0 M 2) fun q3 M1 => (if q3 = (-1) then obn (f_X8_count a0 M1 0) fun q6 M4 => (if 0 < q6 then b_L_refused_221 a0 M4 j1 else b_L_refused_360 a0 M4 j1) else b_L_refused_211 a0 M1)
def b_L_refused_193 (a0 : Nat) (M : Mm) (j1 : Int64) : OR := obn (f_X8_fault a0 M (-1)) fun q3 M1 => (if q3 = (-1) then b_L_refused_202 a0 M1 j1 else b_L_refused_211 a0 M1)
def b_L_refused_183 (a0 : Nat) (M : Mm) (j1 : Int64) : OR := obn (f_X8_type a0 M 127) fun q3 M1 => (if q3 = (-1) then b_L_refused_193 a0 M1 j1 else b_L_refused_211 a0 M1)
def b_L_refused_173 (a0 : Nat) (M : Mm) (j1 : Int64) : OR := obn (f_X8_type a0 M 31) fun q3 M1 => (if q3 = (-1) then b_L_refused_183 a0 M1 j1 else b_L_refused_211 a0 M1)
def b_L_refused_162 (a0 : Nat) (M : Mm) (j1 : Int64) : OR := obn (f_X8_pass a0 M 10001) fun q3 M1 => (if q3 = (-1) then b_L_refused_173 a0 M1 j1 else b_L_refused_211 a0 M1)
def b_L_refused_153 (a0 : Nat) (M : Mm) (j1 : Int64) : OR := obn (f_X8_pass a0 M 0) fun q3 M1 => (if q3 = (-1) then b_L_refused_162 a0 M1 j1 else b_L_refused_211 a0 M1)
def b_L_refused_141 (a0 : Nat) (M : Mm) (j1 : Int64) : OR := obn (f_X8_log a0 M 24 0) fun q3 M1 => (if q3 = (-4) then b_L_refused_153 a0 M1 j1 else b_L_refused_211 a0 M1)
def b_L_refused_131 (a0 : Nat) (M : Mm) (j1 : Int64) : OR := obn (f_X8_log a0 M 0 (-1)) fun q3 M1 => (if q3 = (-1) then b_L_refused_141 a0 M1 j1 else b_L_refused_211 a0 M1)
def b_L_refused_121 (a0 : Nat) (M : Mm) (j1 : Int64) : OR := obn (f_X8_log a0 M 0 3) fun q3 M1 => (if q3 = (-1) then b_L_refused_131 a0 M1 j1 else b_L_refused_211 a0 M1)
def b_L_refused_111 (a0 : Nat) (M : Mm) (j1 : Int64) : OR := obn (f_X8_log a0 M (-1) 0) fun q3 M1 => (if q3 = (-1) then b_L_refused_121 a0 M1 j1 else b_L_refused_211 a0 M1)
def b_L_refused_101 (a0 : Nat) (M : Mm) (j1 : Int64) : OR := obn (f_X8_count a0 M 16) fun q3 M1 => (if q3 = (-1) then b_L_refused_111 a0 M1 j1 else b_L_refused_211 a0 M1)
def b_L_refused_92 (a0 : Nat) (M : Mm) (j1 : Int64) : OR := obn (f_X8_count a0 M (-1)) fun q3 M1 => (if q3 = (-1) then b_L_refused_101 a0 M1 j1 else b_L_refused_211 a0 M1)
def b_L_refused_82 (a0 : Nat) (M : Mm) (j1 : Int64) : OR := obn (f_X8_pool a0 M 41) fun q3 M1 => (if q3 = (-1) then b_L_refused_92 a0 M1 j1 else b_L_refused_211 a0 M1)
def b_L_refused_73 (a0 : Nat) (M : Mm) (j1 : Int64) : OR := obn (f_X8_pool a0 M (-1)) fun q3 M1 => (if q3 = (-1) then b_L_refused_82 a0 M1 j1 else b_L_refused_211 a0 M1)
def b_L_refused_63 (a0 : Nat) (M : Mm) (j1 : Int64) : OR := obn (f_X8_section a0 M 1 (-1)) fun q3 M1 => (if q3 = (-1) then b_L_refused_73 a0 M1 j1 else b_L_refused_211 a0 M1)
def b_L_refused_53 (a0 : Nat) (M : Mm) (j1 : Int64) : OR := obn (f_X8_section a0 M 1 2) fun q3 M1 => (if q3 = (-1) then b_L_refused_63 a0 M1 j1 else b_L_refused_211 a0 M1)
def b_L_refused_42 (a0 : Nat) (M : Mm) (j1 : Int64) : OR := obn (f_X8_section a0 M 10 0) fun q3 M1 => (if q3 = (-1) then b_L_refused_53 a0 M1 j1 else b_L_refused_211 a0 M1)
def b_L_refused_32 (a0 : Nat) (M : Mm) (j1 : Int64) : OR := obn (f_X8_section a0 M 0 0) fun q3 M1 => (if q3 = (-1) then b_L_refused_42 a0 M1 j1 else b_L_refused_211 a0 M1)
def f_L_refused (a0 : Nat) (M : Mm) : OR := obn (f_L_state a0 M) fun q3 M1 => (obn (f_X8_count a0 M1 14) fun q6 M4 => (obn (f_L_mixed M4 q3 (Int32.toInt64 q6)) fun q9 M7 => (obn (f_X8_count a0 M7 15) fun q12 M10 => (obn (f_L_mixed M10 q9 (Int32.toInt64 q12)) fun q15 M13 => (obn (f_L_refusesPlaces a0 M13) fun q18 M16 => (if q18 = 0 then b_L_refused_211 a0 M16 else b_L_refused_32 a0 M16 q15))))))
set_option maxHeartbeats 4000000 in
set_option maxRecDepth 100000 in
theorem w_L_refused_211 {l : Launch} {w : Wp} {L : Ly} {E : Cx} {a0 : Nat} {R0 : Int32 × Mm} (cx : Ok w L E RL cL_refused 3 8) (en : En w L E (some .boolean) R0) (h0 : LTramWires w L (a0)) {M : Mm} (hf : b_L_refused_211 a0 M = some R0) : G l w L E M [] 211 [] := by
  unfold b_L_refused_211 at hf
  refine g_iconst (pc := 211) (v := 0) cx dL_refused_211 (by decide) ?_
  exact g_zret (pc := 212) cx en dL_refused_212 hf
set_option maxHeartbeats 4000000 in
set_option maxRecDepth 100000 in
theorem w_L_refused_425 {l : Launch} {w : Wp} {L : Ly} {E : Cx} {a0 : Nat} {s0 : Int32} {R0 : Int32 × Mm} (cx : Ok w L E RL cL_refused 3 8) (en : En w L E (some .boolean) R0) (h0 : LTramWires w L (a0)) {M : Mm} (hf : b_L_refused_425 a0 M s0 = some R0) : G l w L E M [] 425 [.int s0] := by
  unfold b_L_refused_425 at hf
  exact g_zret (pc := 425) cx en dL_refused_425 hf
set_option maxHeartbeats 4000000 in
set_option maxRecDepth 100000 in
theorem w_L_refused_391 {l : Launch} {w : Wp} {L : Ly} {E : Cx} {a0 : Nat} {j1 : Int64} {R0 : Int32 × Mm} (cx : Ok w L E RL cL_refused 3 8) (en : En w L E (some .boolean) R0) (h0 : LTramWires w L (a0)) {M : Mm} (hf : b_L_refused_391 a0 M j1 = some R0) : G l w L E M [(0, .ref a0), (1, .long j1)] 391 [] := by
  unfold b_L_refused_391 at hf
  refine g_aload_n (pc := 391) cx dL_refused_391 rfl 0 rfl ?_
  obtain ⟨q3, M1, hc2, hf⟩ := obn_some2 hf
  refine g_callSj (pc := 392) [.ref a0] [] cx lk_L_60 (by decide) (c_L_state h0 hc2) dL_refused_392 (Nat.le_of_ble_eq_true rfl) ?_
  refine g_aload_n (pc := 395) cx dL_refused_395 rfl 0 rfl ?_
  refine g_bipush (pc := 396) (v := 14) cx dL_refused_396 (by decide) ?_
  obtain ⟨q6, M4, hc5, hf⟩ := obn_some2 hf
  refine g_callVi (pc := 398) [.int 14] [.long q3] cx lk_L_13 vw_X8 (LTramWires_o h0) (by decide) (c_X8_count h0 hc5) dL_refused_398 (Nat.le_of_ble_eq_true rfl) ?_
  refine g_i2l (pc := 401) cx dL_refused_401 ?_
  obtain ⟨q9, M7, hc8, hf⟩ := obn_some2 hf
  refine g_callSj (pc := 402) [.long q3, .long (Int32.toInt64 q6)] [] cx lk_L_19 (by decide) (c_L_mixed hc8) dL_refused_402 (Nat.le_of_ble_eq_true rfl) ?_
  refine g_aload_n (pc := 405) cx dL_refused_405 rfl 0 rfl ?_
  refine g_bipush (pc := 406) (v := 15) cx dL_refused_406 (by decide) ?_
  obtain ⟨q12, M10, hc11, hf⟩ := obn_some2 hf
  refine g_callVi (pc := 408) [.int 15] [.long q9] cx lk_L_13 vw_X8 (LTramWires_o h0) (by decide) (c_X8_count h0 hc11) dL_refused_408 (Nat.le_of_ble_eq_true rfl) ?_
  refine g_i2l (pc := 411) cx dL_refused_411 ?_
  obtain ⟨q15, M13, hc14, hf⟩ := obn_some2 hf
  refine g_callSj (pc := 412) [.long q9, .long (Int32.toInt64 q12)] [] cx lk_L_19 (by decide) (c_L_mixed hc14) dL_refused_412 (Nat.le_of_ble_eq_true rfl) ?_
  refine g_lload_n (pc := 415) cx dL_refused_415 rfl 1 rfl ?_
  refine g_lcmp (pc := 416) cx dL_refused_416 ?_
  refine g_if_ne (pc := 417) (tgt := 424) cx dL_refused_417 rfl hf (fun hf => ?_) (fun hf => ?_)
  · refine g_iconst (pc := 420) (v := 1) cx dL_refused_420 (by decide) ?_
    refine g_goto (pc := 421) (tgt := 425) cx dL_refused_421 rfl ?_
    refine g_sub [] [] rfl ?_
    exact w_L_refused_425 cx en h0 hf
  · refine g_iconst (pc := 424) (v := 0) cx dL_refused_424 (by decide) ?_
    refine g_sub [] [] rfl ?_
    exact w_L_refused_425 cx en h0 hf
set_option maxHeartbeats 4000000 in
set_option maxRecDepth 100000 in
theorem w_L_refused_389 {l : Launch} {w : Wp} {L : Ly} {E : Cx} {a0 : Nat} {R0 : Int32 × Mm} (cx : Ok w L E RL cL_refused 3 8) (en : En w L E (some .boolean) R0) (h0 : LTramWires w L (a0)) {M : Mm} (hf : b_L_refused_389 a0 M = some R0) : G l w L E M [] 389 [] := by
  unfold b_L_refused_389 at hf
  refine g_iconst (pc := 389) (v := 0) cx dL_refused_389 (by decide) ?_
  exact g_zret (pc := 390) cx en dL_refused_390 hf
set_option maxHeartbeats 4000000 in
set_option maxRecDepth 100000 in
theorem w_L_refused_379 {l : Launch} {w : Wp} {L : Ly} {E : Cx} {a0 : Nat} {j1 : Int64} {R0 : Int32 × Mm} (cx : Ok w L E RL cL_refused 3 8) (en : En w L E (some .boolean) R0) (h0 : LTramWires w L (a0)) {M : Mm} (hf : b_L_refused_379 a0 M j1 = some R0) : G l w L E M [(0, .ref a0), (1, .long j1)] 379 [] := by
  unfold b_L_refused_379 at hf
  refine g_aload_n (pc := 379) cx dL_refused_379 rfl 0 rfl ?_
  refine g_iconst (pc := 380) (v := 0) cx dL_refused_380 (by decide) ?_
  refine g_iconst (pc := 381) (v := (-1)) cx dL_refused_381 (by decide) ?_
  obtain ⟨q3, M1, hc2, hf⟩ := obn_some2 hf
  refine g_callVi (pc := 382) [.int 0, .int (-1)] [] cx lk_L_29 vw_X8 (LTramWires_o h0) (by decide) (c_X8_isolatorOf h0 hc2) dL_refused_382 (Nat.le_of_ble_eq_true rfl) ?_
  refine g_iconst (pc := 385) (v := (-1)) cx dL_refused_385 (by decide) ?_
  refine g_icmp_eq (pc := 386) (tgt := 391) cx dL_refused_386 rfl hf (fun hf => ?_) (fun hf => ?_)
  · exact w_L_refused_391 cx en h0 hf
  · refine g_sub [] [] rfl ?_
    exact w_L_refused_389 cx en h0 hf
set_option maxHeartbeats 4000000 in
set_option maxRecDepth 100000 in
theorem w_L_refused_368 {l : Launch} {w : Wp} {L : Ly} {E : Cx} {a0 : Nat} {j1 : Int64} {R0 : Int32 × Mm} (cx : Ok w L E RL cL_refused 3 8) (en : En w L E (some .boolean) R0) (h0 : LTramWires w L (a0)) {M : Mm} (hf : b_L_refused_368 a0 M j1 = some R0) : G l w L E M [(0, .ref a0), (1, .long j1)] 368 [] := by
  unfold b_L_refused_368 at hf
  refine g_aload_n (pc := 368) cx dL_refused_368 rfl 0 rfl ?_
  refine g_iconst (pc := 369) (v := 0) cx dL_refused_369 (by decide) ?_
  refine g_bipush (pc := 370) (v := 6) cx dL_refused_370 (by decide) ?_
  obtain ⟨q3, M1, hc2, hf⟩ := obn_some2 hf
  refine g_callVi (pc := 372) [.int 0, .int 6] [] cx lk_L_29 vw_X8 (LTramWires_o h0) (by decide) (c_X8_isolatorOf h0 hc2) dL_refused_372 (Nat.le_of_ble_eq_true rfl) ?_
  refine g_iconst (pc := 375) (v := (-1)) cx dL_refused_375 (by decide) ?_
  refine g_icmp_ne (pc := 376) (tgt := 389) cx dL_refused_376 rfl hf (fun hf => ?_) (fun hf => ?_)
  · exact w_L_refused_379 cx en h0 hf
  · refine g_sub [] [] rfl ?_
    exact w_L_refused_389 cx en h0 hf
set_option maxHeartbeats 4000000 in
set_option maxRecDepth 100000 in
theorem w_L_refused_360 {l : Launch} {w : Wp} {L : Ly} {E : Cx} {a0 : Nat} {j1 : Int64} {R0 : Int32 × Mm} (cx : Ok w L E RL cL_refused 3 8) (en : En w L E (some .boolean) R0) (h0 : LTramWires w L (a0)) {M : Mm} (hf : b_L_refused_360 a0 M j1 = some R0) : G l w L E M [(0, .ref a0), (1, .long j1)] 360 [] := by
  unfold b_L_refused_360 at hf
  refine g_aload_n (pc := 360) cx dL_refused_360 rfl 0 rfl ?_
  refine g_iconst (pc := 361) (v := 1) cx dL_refused_361 (by decide) ?_
  obtain ⟨q3, M1, hc2, hf⟩ := obn_some2 hf
  refine g_callVi (pc := 362) [.int 1] [] cx lk_L_13 vw_X8 (LTramWires_o h0) (by decide) (c_X8_count h0 hc2) dL_refused_362 (Nat.le_of_ble_eq_true rfl) ?_
  refine g_if_le (pc := 365) (tgt := 391) cx dL_refused_365 rfl hf (fun hf => ?_) (fun hf => ?_)
  · exact w_L_refused_368 cx en h0 hf
  · exact w_L_refused_391 cx en h0 hf
set_option maxHeartbeats 4000000 in
set_option maxRecDepth 100000 in
theorem w_L_refused_358 {l : Launch} {w : Wp} {L : Ly} {E : Cx} {a0 : Nat} {R0 : Int32 × Mm} (cx : Ok w L E RL cL_refused 3 8) (en : En w L E (some .boolean) R0) (h0 : LTramWires w L (a0)) {M : Mm} (hf : b_L_refused_358 a0 M = some R0) : G l w L E M [] 358 [] := by
  unfold b_L_refused_358 at hf
  refine g_iconst (pc := 358) (v := 0) cx dL_refused_358 (by decide) ?_
  exact g_zret (pc := 359) cx en dL_refused_359 hf
set_option maxHeartbeats 4000000 in
set_option maxRecDepth 100000 in
theorem w_L_refused_347 {l : Launch} {w : Wp} {L : Ly} {E : Cx} {a0 : Nat} {j1 : Int64} {R0 : Int32 × Mm} (cx : Ok w L E RL cL_refused 3 8) (en : En w L E (some .boolean) R0) (h0 : LTramWires w L (a0)) {M : Mm} (hf : b_L_refused_347 a0 M j1 = some R0) : G l w L E M [(0, .ref a0), (1, .long j1)] 347 [] := by
  unfold b_L_refused_347 at hf
  refine g_aload_n (pc := 347) cx dL_refused_347 rfl 0 rfl ?_
  refine g_iconst (pc := 348) (v := 0) cx dL_refused_348 (by decide) ?_
  refine g_bipush (pc := 349) (v := 51) cx dL_refused_349 (by decide) ?_
  obtain ⟨q3, M1, hc2, hf⟩ := obn_some2 hf
  refine g_callVi (pc := 351) [.int 0, .int 51] [] cx lk_L_45 vw_X8 (LTramWires_o h0) (by decide) (c_X8_leave h0 hc2) dL_refused_351 (Nat.le_of_ble_eq_true rfl) ?_
  refine g_iconst (pc := 354) (v := (-1)) cx dL_refused_354 (by decide) ?_
  refine g_icmp_eq (pc := 355) (tgt := 360) cx dL_refused_355 rfl hf (fun hf => ?_) (fun hf => ?_)
  · exact w_L_refused_360 cx en h0 hf
  · refine g_sub [] [] rfl ?_
    exact w_L_refused_358 cx en h0 hf
set_option maxHeartbeats 4000000 in
set_option maxRecDepth 100000 in
theorem w_L_refused_337 {l : Launch} {w : Wp} {L : Ly} {E : Cx} {a0 : Nat} {j1 : Int64} {R0 : Int32 × Mm} (cx : Ok w L E RL cL_refused 3 8) (en : En w L E (some .boolean) R0) (h0 : LTramWires w L (a0)) {M : Mm} (hf : b_L_refused_337 a0 M j1 = some R0) : G l w L E M [(0, .ref a0), (1, .long j1)] 337 [] := by
  unfold b_L_refused_337 at hf
  refine g_aload_n (pc := 337) cx dL_refused_337 rfl 0 rfl ?_
  refine g_iconst (pc := 338) (v := 0) cx dL_refused_338 (by decide) ?_
  refine g_iconst (pc := 339) (v := (-1)) cx dL_refused_339 (by decide) ?_
  obtain ⟨q3, M1, hc2, hf⟩ := obn_some2 hf
  refine g_callVi (pc := 340) [.int 0, .int (-1)] [] cx lk_L_45 vw_X8 (LTramWires_o h0) (by decide) (c_X8_leave h0 hc2) dL_refused_340 (Nat.le_of_ble_eq_true rfl) ?_
  refine g_iconst (pc := 343) (v := (-1)) cx dL_refused_343 (by decide) ?_
  refine g_icmp_ne (pc := 344) (tgt := 358) cx dL_refused_344 rfl hf (fun hf => ?_) (fun hf => ?_)
  · exact w_L_refused_347 cx en h0 hf
  · refine g_sub [] [] rfl ?_
    exact w_L_refused_358 cx en h0 hf
set_option maxHeartbeats 4000000 in
set_option maxRecDepth 100000 in
theorem w_L_refused_325 {l : Launch} {w : Wp} {L : Ly} {E : Cx} {a0 : Nat} {j1 : Int64} {R0 : Int32 × Mm} (cx : Ok w L E RL cL_refused 3 8) (en : En w L E (some .boolean) R0) (h0 : LTramWires w L (a0)) {M : Mm} (hf : b_L_refused_325 a0 M j1 = some R0) : G l w L E M [(0, .ref a0), (1, .long j1)] 325 [] := by
  unfold b_L_refused_325 at hf
  refine g_aload_n (pc := 325) cx dL_refused_325 rfl 0 rfl ?_
  refine g_iconst (pc := 326) (v := 0) cx dL_refused_326 (by decide) ?_
  refine g_iconst (pc := 327) (v := 0) cx dL_refused_327 (by decide) ?_
  refine g_ldc (pc := 328) cx tk_L_83 dL_refused_328 ?_
  obtain ⟨q3, M1, hc2, hf⟩ := obn_some2 hf
  refine g_callVi (pc := 330) [.int 0, .int 0, .int 100001] [] cx lk_L_41 vw_X8 (LTramWires_o h0) (by decide) (c_X8_enter h0 hc2) dL_refused_330 (Nat.le_of_ble_eq_true rfl) ?_
  refine g_iconst (pc := 333) (v := (-1)) cx dL_refused_333 (by decide) ?_
  refine g_icmp_ne (pc := 334) (tgt := 358) cx dL_refused_334 rfl hf (fun hf => ?_) (fun hf => ?_)
  · exact w_L_refused_337 cx en h0 hf
  · refine g_sub [] [] rfl ?_
    exact w_L_refused_358 cx en h0 hf
set_option maxHeartbeats 4000000 in
set_option maxRecDepth 100000 in
theorem w_L_refused_307 {l : Launch} {w : Wp} {L : Ly} {E : Cx} {a0 : Nat} {j1 : Int64} {R0 : Int32 × Mm} (cx : Ok w L E RL cL_refused 3 8) (en : En w L E (some .boolean) R0) (h0 : LTramWires w L (a0)) {M : Mm} (hf : b_L_refused_307 a0 M j1 = some R0) : G l w L E M [(0, .ref a0), (1, .long j1)] 307 [] := by
  unfold b_L_refused_307 at hf
  refine g_aload_n (pc := 307) cx dL_refused_307 rfl 0 rfl ?_
  refine g_iconst (pc := 308) (v := 0) cx dL_refused_308 (by decide) ?_
  refine g_iconst (pc := 309) (v := 0) cx dL_refused_309 (by decide) ?_
  refine g_aload_n (pc := 310) cx dL_refused_310 rfl 0 rfl ?_
  refine g_bipush (pc := 311) (v := 8) cx dL_refused_311 (by decide) ?_
  obtain ⟨q3, M1, hc2, hf⟩ := obn_some2 hf
  refine g_callVi (pc := 313) [.int 8] [.int 0, .int 0, .ref a0] cx lk_L_13 vw_X8 (LTramWires_o h0) (by decide) (c_X8_count h0 hc2) dL_refused_313 (Nat.le_of_ble_eq_true rfl) ?_
  refine g_iconst (pc := 316) (v := 1) cx dL_refused_316 (by decide) ?_
  refine g_isub (pc := 317) cx dL_refused_317 ?_
  obtain ⟨q6, M4, hc5, hf⟩ := obn_some2 hf
  refine g_callVi (pc := 318) [.int 0, .int 0, .int (q3 - 1)] [] cx lk_L_41 vw_X8 (LTramWires_o h0) (by decide) (c_X8_enter h0 hc5) dL_refused_318 (Nat.le_of_ble_eq_true rfl) ?_
  refine g_iconst (pc := 321) (v := (-1)) cx dL_refused_321 (by decide) ?_
  refine g_icmp_ne (pc := 322) (tgt := 358) cx dL_refused_322 rfl hf (fun hf => ?_) (fun hf => ?_)
  · exact w_L_refused_325 cx en h0 hf
  · refine g_sub [] [] rfl ?_
    exact w_L_refused_358 cx en h0 hf
set_option maxHeartbeats 4000000 in
set_option maxRecDepth 100000 in
theorem w_L_refused_290 {l : Launch} {w : Wp} {L : Ly} {E : Cx} {a0 : Nat} {j1 : Int64} {R0 : Int32 × Mm} (cx : Ok w L E RL cL_refused 3 8) (en : En w L E (some .boolean) R0) (h0 : LTramWires w L (a0)) {M : Mm} (hf : b_L_refused_290 a0 M j1 = some R0) : G l w L E M [(0, .ref a0), (1, .long j1)] 290 [] := by
  unfold b_L_refused_290 at hf
  refine g_aload_n (pc := 290) cx dL_refused_290 rfl 0 rfl ?_
  refine g_iconst (pc := 291) (v := 0) cx dL_refused_291 (by decide) ?_
  refine g_bipush (pc := 292) (v := 51) cx dL_refused_292 (by decide) ?_
  refine g_aload_n (pc := 294) cx dL_refused_294 rfl 0 rfl ?_
  refine g_bipush (pc := 295) (v := 8) cx dL_refused_295 (by decide) ?_
  obtain ⟨q3, M1, hc2, hf⟩ := obn_some2 hf
  refine g_callVi (pc := 297) [.int 8] [.int 51, .int 0, .ref a0] cx lk_L_13 vw_X8 (LTramWires_o h0) (by decide) (c_X8_count h0 hc2) dL_refused_297 (Nat.le_of_ble_eq_true rfl) ?_
  obtain ⟨q6, M4, hc5, hf⟩ := obn_some2 hf
  refine g_callVi (pc := 300) [.int 0, .int 51, .int q3] [] cx lk_L_41 vw_X8 (LTramWires_o h0) (by decide) (c_X8_enter h0 hc5) dL_refused_300 (Nat.le_of_ble_eq_true rfl) ?_
  refine g_iconst (pc := 303) (v := (-1)) cx dL_refused_303 (by decide) ?_
  refine g_icmp_ne (pc := 304) (tgt := 358) cx dL_refused_304 rfl hf (fun hf => ?_) (fun hf => ?_)
  · exact w_L_refused_307 cx en h0 hf
  · refine g_sub [] [] rfl ?_
    exact w_L_refused_358 cx en h0 hf
set_option maxHeartbeats 4000000 in
set_option maxRecDepth 100000 in
theorem w_L_refused_274 {l : Launch} {w : Wp} {L : Ly} {E : Cx} {a0 : Nat} {j1 : Int64} {R0 : Int32 × Mm} (cx : Ok w L E RL cL_refused 3 8) (en : En w L E (some .boolean) R0) (h0 : LTramWires w L (a0)) {M : Mm} (hf : b_L_refused_274 a0 M j1 = some R0) : G l w L E M [(0, .ref a0), (1, .long j1)] 274 [] := by
  unfold b_L_refused_274 at hf
  refine g_aload_n (pc := 274) cx dL_refused_274 rfl 0 rfl ?_
  refine g_iconst (pc := 275) (v := 0) cx dL_refused_275 (by decide) ?_
  refine g_iconst (pc := 276) (v := (-1)) cx dL_refused_276 (by decide) ?_
  refine g_aload_n (pc := 277) cx dL_refused_277 rfl 0 rfl ?_
  refine g_bipush (pc := 278) (v := 8) cx dL_refused_278 (by decide) ?_
  obtain ⟨q3, M1, hc2, hf⟩ := obn_some2 hf
  refine g_callVi (pc := 280) [.int 8] [.int (-1), .int 0, .ref a0] cx lk_L_13 vw_X8 (LTramWires_o h0) (by decide) (c_X8_count h0 hc2) dL_refused_280 (Nat.le_of_ble_eq_true rfl) ?_
  obtain ⟨q6, M4, hc5, hf⟩ := obn_some2 hf
  refine g_callVi (pc := 283) [.int 0, .int (-1), .int q3] [] cx lk_L_41 vw_X8 (LTramWires_o h0) (by decide) (c_X8_enter h0 hc5) dL_refused_283 (Nat.le_of_ble_eq_true rfl) ?_
  refine g_iconst (pc := 286) (v := (-1)) cx dL_refused_286 (by decide) ?_
  refine g_icmp_ne (pc := 287) (tgt := 358) cx dL_refused_287 rfl hf (fun hf => ?_) (fun hf => ?_)
  · exact w_L_refused_290 cx en h0 hf
  · refine g_sub [] [] rfl ?_
    exact w_L_refused_358 cx en h0 hf
set_option maxHeartbeats 4000000 in
set_option maxRecDepth 100000 in
theorem w_L_refused_262 {l : Launch} {w : Wp} {L : Ly} {E : Cx} {a0 : Nat} {j1 : Int64} {R0 : Int32 × Mm} (cx : Ok w L E RL cL_refused 3 8) (en : En w L E (some .boolean) R0) (h0 : LTramWires w L (a0)) {M : Mm} (hf : b_L_refused_262 a0 M j1 = some R0) : G l w L E M [(0, .ref a0), (1, .long j1)] 262 [] := by
  unfold b_L_refused_262 at hf
  refine g_aload_n (pc := 262) cx dL_refused_262 rfl 0 rfl ?_
  refine g_iconst (pc := 263) (v := 0) cx dL_refused_263 (by decide) ?_
  refine g_bipush (pc := 264) (v := 19) cx dL_refused_264 (by decide) ?_
  obtain ⟨q3, M1, hc2, hf⟩ := obn_some2 hf
  refine g_callVi (pc := 266) [.int 0, .int 19] [] cx lk_L_35 vw_X8 (LTramWires_o h0) (by decide) (c_X8_plan h0 hc2) dL_refused_266 (Nat.le_of_ble_eq_true rfl) ?_
  refine g_bipush (pc := 269) (v := (-4)) cx dL_refused_269 (by decide) ?_
  refine g_icmp_ne (pc := 271) (tgt := 358) cx dL_refused_271 rfl hf (fun hf => ?_) (fun hf => ?_)
  · exact w_L_refused_274 cx en h0 hf
  · refine g_sub [] [] rfl ?_
    exact w_L_refused_358 cx en h0 hf
set_option maxHeartbeats 4000000 in
set_option maxRecDepth 100000 in
theorem w_L_refused_252 {l : Launch} {w : Wp} {L : Ly} {E : Cx} {a0 : Nat} {j1 : Int64} {R0 : Int32 × Mm} (cx : Ok w L E RL cL_refused 3 8) (en : En w L E (some .boolean) R0) (h0 : LTramWires w L (a0)) {M : Mm} (hf : b_L_refused_252 a0 M j1 = some R0) : G l w L E M [(0, .ref a0), (1, .long j1)] 252 [] := by
  unfold b_L_refused_252 at hf
  refine g_aload_n (pc := 252) cx dL_refused_252 rfl 0 rfl ?_
  refine g_iconst (pc := 253) (v := 0) cx dL_refused_253 (by decide) ?_
  refine g_iconst (pc := 254) (v := (-1)) cx dL_refused_254 (by decide) ?_
  obtain ⟨q3, M1, hc2, hf⟩ := obn_some2 hf
  refine g_callVi (pc := 255) [.int 0, .int (-1)] [] cx lk_L_35 vw_X8 (LTramWires_o h0) (by decide) (c_X8_plan h0 hc2) dL_refused_255 (Nat.le_of_ble_eq_true rfl) ?_
  refine g_iconst (pc := 258) (v := (-1)) cx dL_refused_258 (by decide) ?_
  refine g_icmp_ne (pc := 259) (tgt := 358) cx dL_refused_259 rfl hf (fun hf => ?_) (fun hf => ?_)
  · exact w_L_refused_262 cx en h0 hf
  · refine g_sub [] [] rfl ?_
    exact w_L_refused_358 cx en h0 hf
set_option maxHeartbeats 4000000 in
set_option maxRecDepth 100000 in
theorem w_L_refused_242 {l : Launch} {w : Wp} {L : Ly} {E : Cx} {a0 : Nat} {j1 : Int64} {R0 : Int32 × Mm} (cx : Ok w L E RL cL_refused 3 8) (en : En w L E (some .boolean) R0) (h0 : LTramWires w L (a0)) {M : Mm} (hf : b_L_refused_242 a0 M j1 = some R0) : G l w L E M [(0, .ref a0), (1, .long j1)] 242 [] := by
  unfold b_L_refused_242 at hf
  refine g_aload_n (pc := 242) cx dL_refused_242 rfl 0 rfl ?_
  refine g_iconst (pc := 243) (v := 0) cx dL_refused_243 (by decide) ?_
  refine g_iconst (pc := 244) (v := (-1)) cx dL_refused_244 (by decide) ?_
  obtain ⟨q3, M1, hc2, hf⟩ := obn_some2 hf
  refine g_callVi (pc := 245) [.int 0, .int (-1)] [] cx lk_L_25 vw_X8 (LTramWires_o h0) (by decide) (c_X8_sectionOf h0 hc2) dL_refused_245 (Nat.le_of_ble_eq_true rfl) ?_
  refine g_iconst (pc := 248) (v := (-1)) cx dL_refused_248 (by decide) ?_
  refine g_icmp_ne (pc := 249) (tgt := 358) cx dL_refused_249 rfl hf (fun hf => ?_) (fun hf => ?_)
  · exact w_L_refused_252 cx en h0 hf
  · refine g_sub [] [] rfl ?_
    exact w_L_refused_358 cx en h0 hf
set_option maxHeartbeats 4000000 in
set_option maxRecDepth 100000 in
theorem w_L_refused_231 {l : Launch} {w : Wp} {L : Ly} {E : Cx} {a0 : Nat} {j1 : Int64} {R0 : Int32 × Mm} (cx : Ok w L E RL cL_refused 3 8) (en : En w L E (some .boolean) R0) (h0 : LTramWires w L (a0)) {M : Mm} (hf : b_L_refused_231 a0 M j1 = some R0) : G l w L E M [(0, .ref a0), (1, .long j1)] 231 [] := by
  unfold b_L_refused_231 at hf
  refine g_aload_n (pc := 231) cx dL_refused_231 rfl 0 rfl ?_
  refine g_iconst (pc := 232) (v := 0) cx dL_refused_232 (by decide) ?_
  refine g_bipush (pc := 233) (v := 11) cx dL_refused_233 (by decide) ?_
  obtain ⟨q3, M1, hc2, hf⟩ := obn_some2 hf
  refine g_callVi (pc := 235) [.int 0, .int 11] [] cx lk_L_25 vw_X8 (LTramWires_o h0) (by decide) (c_X8_sectionOf h0 hc2) dL_refused_235 (Nat.le_of_ble_eq_true rfl) ?_
  refine g_iconst (pc := 238) (v := (-1)) cx dL_refused_238 (by decide) ?_
  refine g_icmp_ne (pc := 239) (tgt := 358) cx dL_refused_239 rfl hf (fun hf => ?_) (fun hf => ?_)
  · exact w_L_refused_242 cx en h0 hf
  · refine g_sub [] [] rfl ?_
    exact w_L_refused_358 cx en h0 hf
set_option maxHeartbeats 4000000 in
set_option maxRecDepth 100000 in
theorem w_L_refused_221 {l : Launch} {w : Wp} {L : Ly} {E : Cx} {a0 : Nat} {j1 : Int64} {R0 : Int32 × Mm} (cx : Ok w L E RL cL_refused 3 8) (en : En w L E (some .boolean) R0) (h0 : LTramWires w L (a0)) {M : Mm} (hf : b_L_refused_221 a0 M j1 = some R0) : G l w L E M [(0, .ref a0), (1, .long j1)] 221 [] := by
  unfold b_L_refused_221 at hf
  refine g_aload_n (pc := 221) cx dL_refused_221 rfl 0 rfl ?_
  refine g_iconst (pc := 222) (v := 0) cx dL_refused_222 (by decide) ?_
  refine g_iconst (pc := 223) (v := 0) cx dL_refused_223 (by decide) ?_
  obtain ⟨q3, M1, hc2, hf⟩ := obn_some2 hf
  refine g_callVi (pc := 224) [.int 0, .int 0] [] cx lk_L_51 vw_X8 (LTramWires_o h0) (by decide) (c_X8_isolator h0 hc2) dL_refused_224 (Nat.le_of_ble_eq_true rfl) ?_
  refine g_iconst (pc := 227) (v := (-1)) cx dL_refused_227 (by decide) ?_
  refine g_icmp_ne (pc := 228) (tgt := 358) cx dL_refused_228 rfl hf (fun hf => ?_) (fun hf => ?_)
  · exact w_L_refused_231 cx en h0 hf
  · refine g_sub [] [] rfl ?_
    exact w_L_refused_358 cx en h0 hf
set_option maxHeartbeats 4000000 in
set_option maxRecDepth 100000 in
theorem w_L_refused_202 {l : Launch} {w : Wp} {L : Ly} {E : Cx} {a0 : Nat} {j1 : Int64} {R0 : Int32 × Mm} (cx : Ok w L E RL cL_refused 3 8) (en : En w L E (some .boolean) R0) (h0 : LTramWires w L (a0)) {M : Mm} (hf : b_L_refused_202 a0 M j1 = some R0) : G l w L E M [(0, .ref a0), (1, .long j1)] 202 [] := by
  unfold b_L_refused_202 at hf
  refine g_aload_n (pc := 202) cx dL_refused_202 rfl 0 rfl ?_
  refine g_iconst (pc := 203) (v := 2) cx dL_refused_203 (by decide) ?_
  obtain ⟨q3, M1, hc2, hf⟩ := obn_some2 hf
  refine g_callVi (pc := 204) [.int 2] [] cx lk_L_80 vw_X8 (LTramWires_o h0) (by decide) (c_X8_fault h0 hc2) dL_refused_204 (Nat.le_of_ble_eq_true rfl) ?_
  refine g_iconst (pc := 207) (v := (-1)) cx dL_refused_207 (by decide) ?_
  refine g_icmp_eq (pc := 208) (tgt := 213) cx dL_refused_208 rfl hf (fun hf => ?_) (fun hf => ?_)
  · refine g_aload_n (pc := 213) cx dL_refused_213 rfl 0 rfl ?_
    refine g_iconst (pc := 214) (v := 0) cx dL_refused_214 (by decide) ?_
    obtain ⟨q6, M4, hc5, hf⟩ := obn_some2 hf
    refine g_callVi (pc := 215) [.int 0] [] cx lk_L_13 vw_X8 (LTramWires_o h0) (by decide) (c_X8_count h0 hc5) dL_refused_215 (Nat.le_of_ble_eq_true rfl) ?_
    refine g_if_le (pc := 218) (tgt := 360) cx dL_refused_218 rfl hf (fun hf => ?_) (fun hf => ?_)
    · exact w_L_refused_221 cx en h0 hf
    · exact w_L_refused_360 cx en h0 hf
  · refine g_sub [] [] rfl ?_
    exact w_L_refused_211 cx en h0 hf
set_option maxHeartbeats 4000000 in
set_option maxRecDepth 100000 in
theorem w_L_refused_193 {l : Launch} {w : Wp} {L : Ly} {E : Cx} {a0 : Nat} {j1 : Int64} {R0 : Int32 × Mm} (cx : Ok w L E RL cL_refused 3 8) (en : En w L E (some .boolean) R0) (h0 : LTramWires w L (a0)) {M : Mm} (hf : b_L_refused_193 a0 M j1 = some R0) : G l w L E M [(0, .ref a0), (1, .long j1)] 193 [] := by
  unfold b_L_refused_193 at hf
  refine g_aload_n (pc := 193) cx dL_refused_193 rfl 0 rfl ?_
  refine g_iconst (pc := 194) (v := (-1)) cx dL_refused_194 (by decide) ?_
  obtain ⟨q3, M1, hc2, hf⟩ := obn_some2 hf
  refine g_callVi (pc := 195) [.int (-1)] [] cx lk_L_80 vw_X8 (LTramWires_o h0) (by decide) (c_X8_fault h0 hc2) dL_refused_195 (Nat.le_of_ble_eq_true rfl) ?_
  refine g_iconst (pc := 198) (v := (-1)) cx dL_refused_198 (by decide) ?_
  refine g_icmp_ne (pc := 199) (tgt := 211) cx dL_refused_199 rfl hf (fun hf => ?_) (fun hf => ?_)
  · exact w_L_refused_202 cx en h0 hf
  · refine g_sub [] [] rfl ?_
    exact w_L_refused_211 cx en h0 hf
set_option maxHeartbeats 4000000 in
set_option maxRecDepth 100000 in
theorem w_L_refused_183 {l : Launch} {w : Wp} {L : Ly} {E : Cx} {a0 : Nat} {j1 : Int64} {R0 : Int32 × Mm} (cx : Ok w L E RL cL_refused 3 8) (en : En w L E (some .boolean) R0) (h0 : LTramWires w L (a0)) {M : Mm} (hf : b_L_refused_183 a0 M j1 = some R0) : G l w L E M [(0, .ref a0), (1, .long j1)] 183 [] := by
  unfold b_L_refused_183 at hf
  refine g_aload_n (pc := 183) cx dL_refused_183 rfl 0 rfl ?_
  refine g_bipush (pc := 184) (v := 127) cx dL_refused_184 (by decide) ?_
  obtain ⟨q3, M1, hc2, hf⟩ := obn_some2 hf
  refine g_callVi (pc := 186) [.int 127] [] cx lk_L_77 vw_X8 (LTramWires_o h0) (by decide) (c_X8_type h0 hc2) dL_refused_186 (Nat.le_of_ble_eq_true rfl) ?_
  refine g_iconst (pc := 189) (v := (-1)) cx dL_refused_189 (by decide) ?_
  refine g_icmp_ne (pc := 190) (tgt := 211) cx dL_refused_190 rfl hf (fun hf => ?_) (fun hf => ?_)
  · exact w_L_refused_193 cx en h0 hf
  · refine g_sub [] [] rfl ?_
    exact w_L_refused_211 cx en h0 hf
set_option maxHeartbeats 4000000 in
set_option maxRecDepth 100000 in
theorem w_L_refused_173 {l : Launch} {w : Wp} {L : Ly} {E : Cx} {a0 : Nat} {j1 : Int64} {R0 : Int32 × Mm} (cx : Ok w L E RL cL_refused 3 8) (en : En w L E (some .boolean) R0) (h0 : LTramWires w L (a0)) {M : Mm} (hf : b_L_refused_173 a0 M j1 = some R0) : G l w L E M [(0, .ref a0), (1, .long j1)] 173 [] := by
  unfold b_L_refused_173 at hf
  refine g_aload_n (pc := 173) cx dL_refused_173 rfl 0 rfl ?_
  refine g_bipush (pc := 174) (v := 31) cx dL_refused_174 (by decide) ?_
  obtain ⟨q3, M1, hc2, hf⟩ := obn_some2 hf
  refine g_callVi (pc := 176) [.int 31] [] cx lk_L_77 vw_X8 (LTramWires_o h0) (by decide) (c_X8_type h0 hc2) dL_refused_176 (Nat.le_of_ble_eq_true rfl) ?_
  refine g_iconst (pc := 179) (v := (-1)) cx dL_refused_179 (by decide) ?_
  refine g_icmp_ne (pc := 180) (tgt := 211) cx dL_refused_180 rfl hf (fun hf => ?_) (fun hf => ?_)
  · exact w_L_refused_183 cx en h0 hf
  · refine g_sub [] [] rfl ?_
    exact w_L_refused_211 cx en h0 hf
set_option maxHeartbeats 4000000 in
set_option maxRecDepth 100000 in
theorem w_L_refused_162 {l : Launch} {w : Wp} {L : Ly} {E : Cx} {a0 : Nat} {j1 : Int64} {R0 : Int32 × Mm} (cx : Ok w L E RL cL_refused 3 8) (en : En w L E (some .boolean) R0) (h0 : LTramWires w L (a0)) {M : Mm} (hf : b_L_refused_162 a0 M j1 = some R0) : G l w L E M [(0, .ref a0), (1, .long j1)] 162 [] := by
  unfold b_L_refused_162 at hf
  refine g_aload_n (pc := 162) cx dL_refused_162 rfl 0 rfl ?_
  refine g_sipush (pc := 163) (v := 10001) cx dL_refused_163 (by decide) ?_
  obtain ⟨q3, M1, hc2, hf⟩ := obn_some2 hf
  refine g_callVi (pc := 166) [.int 10001] [] cx lk_L_74 vw_X8 (LTramWires_o h0) (by decide) (c_X8_pass h0 hc2) dL_refused_166 (Nat.le_of_ble_eq_true rfl) ?_
  refine g_iconst (pc := 169) (v := (-1)) cx dL_refused_169 (by decide) ?_
  refine g_icmp_ne (pc := 170) (tgt := 211) cx dL_refused_170 rfl hf (fun hf => ?_) (fun hf => ?_)
  · exact w_L_refused_173 cx en h0 hf
  · refine g_sub [] [] rfl ?_
    exact w_L_refused_211 cx en h0 hf
set_option maxHeartbeats 4000000 in
set_option maxRecDepth 100000 in
theorem w_L_refused_153 {l : Launch} {w : Wp} {L : Ly} {E : Cx} {a0 : Nat} {j1 : Int64} {R0 : Int32 × Mm} (cx : Ok w L E RL cL_refused 3 8) (en : En w L E (some .boolean) R0) (h0 : LTramWires w L (a0)) {M : Mm} (hf : b_L_refused_153 a0 M j1 = some R0) : G l w L E M [(0, .ref a0), (1, .long j1)] 153 [] := by
  unfold b_L_refused_153 at hf
  refine g_aload_n (pc := 153) cx dL_refused_153 rfl 0 rfl ?_
  refine g_iconst (pc := 154) (v := 0) cx dL_refused_154 (by decide) ?_
  obtain ⟨q3, M1, hc2, hf⟩ := obn_some2 hf
  refine g_callVi (pc := 155) [.int 0] [] cx lk_L_74 vw_X8 (LTramWires_o h0) (by decide) (c_X8_pass h0 hc2) dL_refused_155 (Nat.le_of_ble_eq_true rfl) ?_
  refine g_iconst (pc := 158) (v := (-1)) cx dL_refused_158 (by decide) ?_
  refine g_icmp_ne (pc := 159) (tgt := 211) cx dL_refused_159 rfl hf (fun hf => ?_) (fun hf => ?_)
  · exact w_L_refused_162 cx en h0 hf
  · refine g_sub [] [] rfl ?_
    exact w_L_refused_211 cx en h0 hf
set_option maxHeartbeats 4000000 in
set_option maxRecDepth 100000 in
theorem w_L_refused_141 {l : Launch} {w : Wp} {L : Ly} {E : Cx} {a0 : Nat} {j1 : Int64} {R0 : Int32 × Mm} (cx : Ok w L E RL cL_refused 3 8) (en : En w L E (some .boolean) R0) (h0 : LTramWires w L (a0)) {M : Mm} (hf : b_L_refused_141 a0 M j1 = some R0) : G l w L E M [(0, .ref a0), (1, .long j1)] 141 [] := by
  unfold b_L_refused_141 at hf
  refine g_aload_n (pc := 141) cx dL_refused_141 rfl 0 rfl ?_
  refine g_bipush (pc := 142) (v := 24) cx dL_refused_142 (by decide) ?_
  refine g_iconst (pc := 144) (v := 0) cx dL_refused_144 (by decide) ?_
  obtain ⟨q3, M1, hc2, hf⟩ := obn_some2 hf
  refine g_callVi (pc := 145) [.int 24, .int 0] [] cx lk_L_32 vw_X8 (LTramWires_o h0) (by decide) (c_X8_log h0 hc2) dL_refused_145 (Nat.le_of_ble_eq_true rfl) ?_
  refine g_bipush (pc := 148) (v := (-4)) cx dL_refused_148 (by decide) ?_
  refine g_icmp_ne (pc := 150) (tgt := 211) cx dL_refused_150 rfl hf (fun hf => ?_) (fun hf => ?_)
  · exact w_L_refused_153 cx en h0 hf
  · refine g_sub [] [] rfl ?_
    exact w_L_refused_211 cx en h0 hf
set_option maxHeartbeats 4000000 in
set_option maxRecDepth 100000 in
theorem w_L_refused_131 {l : Launch} {w : Wp} {L : Ly} {E : Cx} {a0 : Nat} {j1 : Int64} {R0 : Int32 × Mm} (cx : Ok w L E RL cL_refused 3 8) (en : En w L E (some .boolean) R0) (h0 : LTramWires w L (a0)) {M : Mm} (hf : b_L_refused_131 a0 M j1 = some R0) : G l w L E M [(0, .ref a0), (1, .long j1)] 131 [] := by
  unfold b_L_refused_131 at hf
  refine g_aload_n (pc := 131) cx dL_refused_131 rfl 0 rfl ?_
  refine g_iconst (pc := 132) (v := 0) cx dL_refused_132 (by decide) ?_
  refine g_iconst (pc := 133) (v := (-1)) cx dL_refused_133 (by decide) ?_
  obtain ⟨q3, M1, hc2, hf⟩ := obn_some2 hf
  refine g_callVi (pc := 134) [.int 0, .int (-1)] [] cx lk_L_32 vw_X8 (LTramWires_o h0) (by decide) (c_X8_log h0 hc2) dL_refused_134 (Nat.le_of_ble_eq_true rfl) ?_
  refine g_iconst (pc := 137) (v := (-1)) cx dL_refused_137 (by decide) ?_
  refine g_icmp_ne (pc := 138) (tgt := 211) cx dL_refused_138 rfl hf (fun hf => ?_) (fun hf => ?_)
  · exact w_L_refused_141 cx en h0 hf
  · refine g_sub [] [] rfl ?_
    exact w_L_refused_211 cx en h0 hf
set_option maxHeartbeats 4000000 in
set_option maxRecDepth 100000 in
theorem w_L_refused_121 {l : Launch} {w : Wp} {L : Ly} {E : Cx} {a0 : Nat} {j1 : Int64} {R0 : Int32 × Mm} (cx : Ok w L E RL cL_refused 3 8) (en : En w L E (some .boolean) R0) (h0 : LTramWires w L (a0)) {M : Mm} (hf : b_L_refused_121 a0 M j1 = some R0) : G l w L E M [(0, .ref a0), (1, .long j1)] 121 [] := by
  unfold b_L_refused_121 at hf
  refine g_aload_n (pc := 121) cx dL_refused_121 rfl 0 rfl ?_
  refine g_iconst (pc := 122) (v := 0) cx dL_refused_122 (by decide) ?_
  refine g_iconst (pc := 123) (v := 3) cx dL_refused_123 (by decide) ?_
  obtain ⟨q3, M1, hc2, hf⟩ := obn_some2 hf
  refine g_callVi (pc := 124) [.int 0, .int 3] [] cx lk_L_32 vw_X8 (LTramWires_o h0) (by decide) (c_X8_log h0 hc2) dL_refused_124 (Nat.le_of_ble_eq_true rfl) ?_
  refine g_iconst (pc := 127) (v := (-1)) cx dL_refused_127 (by decide) ?_
  refine g_icmp_ne (pc := 128) (tgt := 211) cx dL_refused_128 rfl hf (fun hf => ?_) (fun hf => ?_)
  · exact w_L_refused_131 cx en h0 hf
  · refine g_sub [] [] rfl ?_
    exact w_L_refused_211 cx en h0 hf
set_option maxHeartbeats 4000000 in
set_option maxRecDepth 100000 in
theorem w_L_refused_111 {l : Launch} {w : Wp} {L : Ly} {E : Cx} {a0 : Nat} {j1 : Int64} {R0 : Int32 × Mm} (cx : Ok w L E RL cL_refused 3 8) (en : En w L E (some .boolean) R0) (h0 : LTramWires w L (a0)) {M : Mm} (hf : b_L_refused_111 a0 M j1 = some R0) : G l w L E M [(0, .ref a0), (1, .long j1)] 111 [] := by
  unfold b_L_refused_111 at hf
  refine g_aload_n (pc := 111) cx dL_refused_111 rfl 0 rfl ?_
  refine g_iconst (pc := 112) (v := (-1)) cx dL_refused_112 (by decide) ?_
  refine g_iconst (pc := 113) (v := 0) cx dL_refused_113 (by decide) ?_
  obtain ⟨q3, M1, hc2, hf⟩ := obn_some2 hf
  refine g_callVi (pc := 114) [.int (-1), .int 0] [] cx lk_L_32 vw_X8 (LTramWires_o h0) (by decide) (c_X8_log h0 hc2) dL_refused_114 (Nat.le_of_ble_eq_true rfl) ?_
  refine g_iconst (pc := 117) (v := (-1)) cx dL_refused_117 (by decide) ?_
  refine g_icmp_ne (pc := 118) (tgt := 211) cx dL_refused_118 rfl hf (fun hf => ?_) (fun hf => ?_)
  · exact w_L_refused_121 cx en h0 hf
  · refine g_sub [] [] rfl ?_
    exact w_L_refused_211 cx en h0 hf
set_option maxHeartbeats 4000000 in
set_option maxRecDepth 100000 in
theorem w_L_refused_101 {l : Launch} {w : Wp} {L : Ly} {E : Cx} {a0 : Nat} {j1 : Int64} {R0 : Int32 × Mm} (cx : Ok w L E RL cL_refused 3 8) (en : En w L E (some .boolean) R0) (h0 : LTramWires w L (a0)) {M : Mm} (hf : b_L_refused_101 a0 M j1 = some R0) : G l w L E M [(0, .ref a0), (1, .long j1)] 101 [] := by
  unfold b_L_refused_101 at hf
  refine g_aload_n (pc := 101) cx dL_refused_101 rfl 0 rfl ?_
  refine g_bipush (pc := 102) (v := 16) cx dL_refused_102 (by decide) ?_
  obtain ⟨q3, M1, hc2, hf⟩ := obn_some2 hf
  refine g_callVi (pc := 104) [.int 16] [] cx lk_L_13 vw_X8 (LTramWires_o h0) (by decide) (c_X8_count h0 hc2) dL_refused_104 (Nat.le_of_ble_eq_true rfl) ?_
  refine g_iconst (pc := 107) (v := (-1)) cx dL_refused_107 (by decide) ?_
  refine g_icmp_ne (pc := 108) (tgt := 211) cx dL_refused_108 rfl hf (fun hf => ?_) (fun hf => ?_)
  · exact w_L_refused_111 cx en h0 hf
  · refine g_sub [] [] rfl ?_
    exact w_L_refused_211 cx en h0 hf
set_option maxHeartbeats 4000000 in
set_option maxRecDepth 100000 in
theorem w_L_refused_92 {l : Launch} {w : Wp} {L : Ly} {E : Cx} {a0 : Nat} {j1 : Int64} {R0 : Int32 × Mm} (cx : Ok w L E RL cL_refused 3 8) (en : En w L E (some .boolean) R0) (h0 : LTramWires w L (a0)) {M : Mm} (hf : b_L_refused_92 a0 M j1 = some R0) : G l w L E M [(0, .ref a0), (1, .long j1)] 92 [] := by
  unfold b_L_refused_92 at hf
  refine g_aload_n (pc := 92) cx dL_refused_92 rfl 0 rfl ?_
  refine g_iconst (pc := 93) (v := (-1)) cx dL_refused_93 (by decide) ?_
  obtain ⟨q3, M1, hc2, hf⟩ := obn_some2 hf
  refine g_callVi (pc := 94) [.int (-1)] [] cx lk_L_13 vw_X8 (LTramWires_o h0) (by decide) (c_X8_count h0 hc2) dL_refused_94 (Nat.le_of_ble_eq_true rfl) ?_
  refine g_iconst (pc := 97) (v := (-1)) cx dL_refused_97 (by decide) ?_
  refine g_icmp_ne (pc := 98) (tgt := 211) cx dL_refused_98 rfl hf (fun hf => ?_) (fun hf => ?_)
  · exact w_L_refused_101 cx en h0 hf
  · refine g_sub [] [] rfl ?_
    exact w_L_refused_211 cx en h0 hf
set_option maxHeartbeats 4000000 in
set_option maxRecDepth 100000 in
theorem w_L_refused_82 {l : Launch} {w : Wp} {L : Ly} {E : Cx} {a0 : Nat} {j1 : Int64} {R0 : Int32 × Mm} (cx : Ok w L E RL cL_refused 3 8) (en : En w L E (some .boolean) R0) (h0 : LTramWires w L (a0)) {M : Mm} (hf : b_L_refused_82 a0 M j1 = some R0) : G l w L E M [(0, .ref a0), (1, .long j1)] 82 [] := by
  unfold b_L_refused_82 at hf
  refine g_aload_n (pc := 82) cx dL_refused_82 rfl 0 rfl ?_
  refine g_bipush (pc := 83) (v := 41) cx dL_refused_83 (by decide) ?_
  obtain ⟨q3, M1, hc2, hf⟩ := obn_some2 hf
  refine g_callVi (pc := 85) [.int 41] [] cx lk_L_71 vw_X8 (LTramWires_o h0) (by decide) (c_X8_pool h0 hc2) dL_refused_85 (Nat.le_of_ble_eq_true rfl) ?_
  refine g_iconst (pc := 88) (v := (-1)) cx dL_refused_88 (by decide) ?_
  refine g_icmp_ne (pc := 89) (tgt := 211) cx dL_refused_89 rfl hf (fun hf => ?_) (fun hf => ?_)
  · exact w_L_refused_92 cx en h0 hf
  · refine g_sub [] [] rfl ?_
    exact w_L_refused_211 cx en h0 hf
set_option maxHeartbeats 4000000 in
set_option maxRecDepth 100000 in
theorem w_L_refused_73 {l : Launch} {w : Wp} {L : Ly} {E : Cx} {a0 : Nat} {j1 : Int64} {R0 : Int32 × Mm} (cx : Ok w L E RL cL_refused 3 8) (en : En w L E (some .boolean) R0) (h0 : LTramWires w L (a0)) {M : Mm} (hf : b_L_refused_73 a0 M j1 = some R0) : G l w L E M [(0, .ref a0), (1, .long j1)] 73 [] := by
  unfold b_L_refused_73 at hf
  refine g_aload_n (pc := 73) cx dL_refused_73 rfl 0 rfl ?_
  refine g_iconst (pc := 74) (v := (-1)) cx dL_refused_74 (by decide) ?_
  obtain ⟨q3, M1, hc2, hf⟩ := obn_some2 hf
  refine g_callVi (pc := 75) [.int (-1)] [] cx lk_L_71 vw_X8 (LTramWires_o h0) (by decide) (c_X8_pool h0 hc2) dL_refused_75 (Nat.le_of_ble_eq_true rfl) ?_
  refine g_iconst (pc := 78) (v := (-1)) cx dL_refused_78 (by decide) ?_
  refine g_icmp_ne (pc := 79) (tgt := 211) cx dL_refused_79 rfl hf (fun hf => ?_) (fun hf => ?_)
  · exact w_L_refused_82 cx en h0 hf
  · refine g_sub [] [] rfl ?_
    exact w_L_refused_211 cx en h0 hf
set_option maxHeartbeats 4000000 in
set_option maxRecDepth 100000 in
theorem w_L_refused_63 {l : Launch} {w : Wp} {L : Ly} {E : Cx} {a0 : Nat} {j1 : Int64} {R0 : Int32 × Mm} (cx : Ok w L E RL cL_refused 3 8) (en : En w L E (some .boolean) R0) (h0 : LTramWires w L (a0)) {M : Mm} (hf : b_L_refused_63 a0 M j1 = some R0) : G l w L E M [(0, .ref a0), (1, .long j1)] 63 [] := by
  unfold b_L_refused_63 at hf
  refine g_aload_n (pc := 63) cx dL_refused_63 rfl 0 rfl ?_
  refine g_iconst (pc := 64) (v := 1) cx dL_refused_64 (by decide) ?_
  refine g_iconst (pc := 65) (v := (-1)) cx dL_refused_65 (by decide) ?_
  obtain ⟨q3, M1, hc2, hf⟩ := obn_some2 hf
  refine g_callVi (pc := 66) [.int 1, .int (-1)] [] cx lk_L_68 vw_X8 (LTramWires_o h0) (by decide) (c_X8_section h0 hc2) dL_refused_66 (Nat.le_of_ble_eq_true rfl) ?_
  refine g_iconst (pc := 69) (v := (-1)) cx dL_refused_69 (by decide) ?_
  refine g_icmp_ne (pc := 70) (tgt := 211) cx dL_refused_70 rfl hf (fun hf => ?_) (fun hf => ?_)
  · exact w_L_refused_73 cx en h0 hf
  · refine g_sub [] [] rfl ?_
    exact w_L_refused_211 cx en h0 hf
set_option maxHeartbeats 4000000 in
set_option maxRecDepth 100000 in
theorem w_L_refused_53 {l : Launch} {w : Wp} {L : Ly} {E : Cx} {a0 : Nat} {j1 : Int64} {R0 : Int32 × Mm} (cx : Ok w L E RL cL_refused 3 8) (en : En w L E (some .boolean) R0) (h0 : LTramWires w L (a0)) {M : Mm} (hf : b_L_refused_53 a0 M j1 = some R0) : G l w L E M [(0, .ref a0), (1, .long j1)] 53 [] := by
  unfold b_L_refused_53 at hf
  refine g_aload_n (pc := 53) cx dL_refused_53 rfl 0 rfl ?_
  refine g_iconst (pc := 54) (v := 1) cx dL_refused_54 (by decide) ?_
  refine g_iconst (pc := 55) (v := 2) cx dL_refused_55 (by decide) ?_
  obtain ⟨q3, M1, hc2, hf⟩ := obn_some2 hf
  refine g_callVi (pc := 56) [.int 1, .int 2] [] cx lk_L_68 vw_X8 (LTramWires_o h0) (by decide) (c_X8_section h0 hc2) dL_refused_56 (Nat.le_of_ble_eq_true rfl) ?_
  refine g_iconst (pc := 59) (v := (-1)) cx dL_refused_59 (by decide) ?_
  refine g_icmp_ne (pc := 60) (tgt := 211) cx dL_refused_60 rfl hf (fun hf => ?_) (fun hf => ?_)
  · exact w_L_refused_63 cx en h0 hf
  · refine g_sub [] [] rfl ?_
    exact w_L_refused_211 cx en h0 hf
set_option maxHeartbeats 4000000 in
set_option maxRecDepth 100000 in
theorem w_L_refused_42 {l : Launch} {w : Wp} {L : Ly} {E : Cx} {a0 : Nat} {j1 : Int64} {R0 : Int32 × Mm} (cx : Ok w L E RL cL_refused 3 8) (en : En w L E (some .boolean) R0) (h0 : LTramWires w L (a0)) {M : Mm} (hf : b_L_refused_42 a0 M j1 = some R0) : G l w L E M [(0, .ref a0), (1, .long j1)] 42 [] := by
  unfold b_L_refused_42 at hf
  refine g_aload_n (pc := 42) cx dL_refused_42 rfl 0 rfl ?_
  refine g_bipush (pc := 43) (v := 10) cx dL_refused_43 (by decide) ?_
  refine g_iconst (pc := 45) (v := 0) cx dL_refused_45 (by decide) ?_
  obtain ⟨q3, M1, hc2, hf⟩ := obn_some2 hf
  refine g_callVi (pc := 46) [.int 10, .int 0] [] cx lk_L_68 vw_X8 (LTramWires_o h0) (by decide) (c_X8_section h0 hc2) dL_refused_46 (Nat.le_of_ble_eq_true rfl) ?_
  refine g_iconst (pc := 49) (v := (-1)) cx dL_refused_49 (by decide) ?_
  refine g_icmp_ne (pc := 50) (tgt := 211) cx dL_refused_50 rfl hf (fun hf => ?_) (fun hf => ?_)
  · exact w_L_refused_53 cx en h0 hf
  · refine g_sub [] [] rfl ?_
    exact w_L_refused_211 cx en h0 hf
set_option maxHeartbeats 4000000 in
set_option maxRecDepth 100000 in
theorem w_L_refused_32 {l : Launch} {w : Wp} {L : Ly} {E : Cx} {a0 : Nat} {j1 : Int64} {R0 : Int32 × Mm} (cx : Ok w L E RL cL_refused 3 8) (en : En w L E (some .boolean) R0) (h0 : LTramWires w L (a0)) {M : Mm} (hf : b_L_refused_32 a0 M j1 = some R0) : G l w L E M [(0, .ref a0), (1, .long j1)] 32 [] := by
  unfold b_L_refused_32 at hf
  refine g_aload_n (pc := 32) cx dL_refused_32 rfl 0 rfl ?_
  refine g_iconst (pc := 33) (v := 0) cx dL_refused_33 (by decide) ?_
  refine g_iconst (pc := 34) (v := 0) cx dL_refused_34 (by decide) ?_
  obtain ⟨q3, M1, hc2, hf⟩ := obn_some2 hf
  refine g_callVi (pc := 35) [.int 0, .int 0] [] cx lk_L_68 vw_X8 (LTramWires_o h0) (by decide) (c_X8_section h0 hc2) dL_refused_35 (Nat.le_of_ble_eq_true rfl) ?_
  refine g_iconst (pc := 38) (v := (-1)) cx dL_refused_38 (by decide) ?_
  refine g_icmp_ne (pc := 39) (tgt := 211) cx dL_refused_39 rfl hf (fun hf => ?_) (fun hf => ?_)
  · exact w_L_refused_42 cx en h0 hf
  · refine g_sub [] [] rfl ?_
    exact w_L_refused_211 cx en h0 hf
set_option maxHeartbeats 4000000 in
set_option maxRecDepth 100000 in
theorem c_L_refused {l : Launch} {w : Wp} {L : Ly} {a0 : Nat} {M : Mm} {R0 : Int32 × Mm} (h0 : LTramWires w L (a0)) (hf : f_L_refused a0 M = some R0) : CT l w L yL_refused cL_refused 3 (some .boolean) 8 [.ref a0] M R0 := by
  unfold f_L_refused at hf
  refine CT_of pn_L (Nat.le_of_ble_eq_true rfl) (fun E cx en => ?_)
  have cx : Ok w L E RL cL_refused 3 8 := cx
  show G l w L E M [(0, .ref a0)] 0 []
  refine g_aload_n (pc := 0) cx dL_refused_0 rfl 0 rfl ?_
  obtain ⟨q3, M1, hc2, hf⟩ := obn_some2 hf
  refine g_callSj (pc := 1) [.ref a0] [] cx lk_L_60 (by decide) (c_L_state h0 hc2) dL_refused_1 (Nat.le_of_ble_eq_true rfl) ?_
  refine g_aload_n (pc := 4) cx dL_refused_4 rfl 0 rfl ?_
  refine g_bipush (pc := 5) (v := 14) cx dL_refused_5 (by decide) ?_
  obtain ⟨q6, M4, hc5, hf⟩ := obn_some2 hf
  refine g_callVi (pc := 7) [.int 14] [.long q3] cx lk_L_13 vw_X8 (LTramWires_o h0) (by decide) (c_X8_count h0 hc5) dL_refused_7 (Nat.le_of_ble_eq_true rfl) ?_
  refine g_i2l (pc := 10) cx dL_refused_10 ?_
  obtain ⟨q9, M7, hc8, hf⟩ := obn_some2 hf
  refine g_callSj (pc := 11) [.long q3, .long (Int32.toInt64 q6)] [] cx lk_L_19 (by decide) (c_L_mixed hc8) dL_refused_11 (Nat.le_of_ble_eq_true rfl) ?_
  refine g_aload_n (pc := 14) cx dL_refused_14 rfl 0 rfl ?_
  refine g_bipush (pc := 15) (v := 15) cx dL_refused_15 (by decide) ?_
  obtain ⟨q12, M10, hc11, hf⟩ := obn_some2 hf
  refine g_callVi (pc := 17) [.int 15] [.long q9] cx lk_L_13 vw_X8 (LTramWires_o h0) (by decide) (c_X8_count h0 hc11) dL_refused_17 (Nat.le_of_ble_eq_true rfl) ?_
  refine g_i2l (pc := 20) cx dL_refused_20 ?_
  obtain ⟨q15, M13, hc14, hf⟩ := obn_some2 hf
  refine g_callSj (pc := 21) [.long q9, .long (Int32.toInt64 q12)] [] cx lk_L_19 (by decide) (c_L_mixed hc14) dL_refused_21 (Nat.le_of_ble_eq_true rfl) ?_
  refine g_lstore_n (pc := 24) cx [(1, .long q15), (0, .ref a0)] dL_refused_24 rfl (by decide) rfl ?_
  refine g_aload_n (pc := 25) cx dL_refused_25 rfl 1 rfl ?_
  obtain ⟨q18, M16, hc17, hf⟩ := obn_some2 hf
  refine g_callSi (pc := 26) [.ref a0] [] cx lk_L_64 (by decide) (c_L_refusesPlaces h0 hc17) dL_refused_26 (Nat.le_of_ble_eq_true rfl) ?_
  refine g_if_eq (pc := 29) (tgt := 211) cx dL_refused_29 rfl hf (fun hf => ?_) (fun hf => ?_)
  · refine g_sub [] [] rfl ?_
    exact w_L_refused_211 cx en h0 hf
  · refine g_sub [1, 0] [(0, .ref a0), (1, .long q15)] rfl ?_
    exact w_L_refused_32 cx en h0 hf
/-! L_types -/
def b_L_types_32 (a0 : Nat) (rc3 : Mm → Int32 → OR) (M : Mm) (j1 : Int64) (x3 : Int32) : OR := rc3 M (x3 + (-1))
def l_L_types_3 (a0 : Nat) (j1 : Int64) : Nat → Mm → Int32 → OR
  | 0, _, _ => none
  | k + 1, M, x3 => if x3 < 0 then some (0, M) else bnd (Int64.toInt32 ((j1 >>> (Int32.toInt64 (8 * x3) &&& 63)) &&& 255)) fun v1 => if v1 = 0 then b_L_types_32 a0 (l_L_types_3 a0 j1 k) M j1 x3 else obn (f_X8_type a0 M v1) fun q4 M2 => (b_L_types_32 a0 (l_L_types_3 a0 j1 k) M2 j1 x3)
def f_L_types (a0 : Nat) (M : Mm) (j1 : Int64) : OR := l_L_types_3 a0 j1 FU M 7
set_option maxHeartbeats 4000000 in
set_option maxRecDepth 100000 in
theorem w_L_types_32 {l : Launch} {w : Wp} {L : Ly} {E : Cx} {a0 : Nat} {rc3 : Mm → Int32 → OR} {j1 : Int64} {x3 : Int32} {R0 : Int32 × Mm} (cx : Ok w L E RL cL_types 5 2) (en : En w L E none R0) (h0 : LTramWires w L (a0)) (hrc3 : ∀ (M : Mm) (x3 : Int32), rc3 M x3 = some R0 → G l w L E M [(0, .ref a0), (1, .long j1), (3, .int x3)] 3 []) {M : Mm} (hf : b_L_types_32 a0 rc3 M j1 x3 = some R0) : G l w L E M [(0, .ref a0), (1, .long j1), (3, .int x3)] 32 [] := by
  unfold b_L_types_32 at hf
  refine g_iinc (pc := 32) cx [(3, .int (x3 + (-1))), (0, .ref a0), (1, .long j1)] dL_types_32 2 rfl rfl (by decide) rfl ?_
  refine g_goto (pc := 35) (tgt := 3) cx dL_types_35 rfl ?_
  refine g_sub [1, 2, 0] [(0, .ref a0), (1, .long j1), (3, .int (x3 + (-1)))] rfl ?_
  exact hrc3 _ _ hf
set_option maxHeartbeats 4000000 in
set_option maxRecDepth 100000 in
theorem w_L_types_3 {l : Launch} {w : Wp} {L : Ly} {E : Cx} {a0 : Nat} {j1 : Int64} {R0 : Int32 × Mm} (cx : Ok w L E RL cL_types 5 2) (en : En w L E none R0) (h0 : LTramWires w L (a0)) : ∀ (k : Nat) {M : Mm} {x3 : Int32}, l_L_types_3 a0 j1 k M x3 = some R0 → G l w L E M [(0, .ref a0), (1, .long j1), (3, .int x3)] 3 [] := by
  intro k
  induction k with
  | zero =>
    intro M x3 hf
    exact absurd hf (by simp [l_L_types_3])
  | succ k ih =>
    intro M x3 hf
    unfold l_L_types_3 at hf
    refine g_iload_n (pc := 3) cx dL_types_3 rfl 2 rfl ?_
    refine g_if_lt (pc := 4) (tgt := 38) cx dL_types_4 rfl hf (fun hf => ?_) (fun hf => ?_)
    · exact g_vret (pc := 38) cx en dL_types_38 hf
    · refine g_lload_n (pc := 7) cx dL_types_7 rfl 1 rfl ?_
      refine g_bipush (pc := 8) (v := 8) cx dL_types_8 (by decide) ?_
      refine g_iload_n (pc := 10) cx dL_types_10 rfl 2 rfl ?_
      refine g_imul (pc := 11) cx dL_types_11 ?_
      refine g_lshr (pc := 12) cx dL_types_12 ?_
      refine g_ldc2 (pc := 13) cx tj_L_84 dL_types_13 ?_
      refine g_land (pc := 16) cx dL_types_16 ?_
      refine g_l2i (pc := 17) cx dL_types_17 ?_
      refine g_nm hf (fun v1 hf => ?_)
      refine g_istore (pc := 18) cx [(4, .int v1), (0, .ref a0), (1, .long j1), (3, .int x3)] dL_types_18 (by decide) rfl ?_
      refine g_iload (pc := 20) cx dL_types_20 0 rfl ?_
      refine g_if_eq (pc := 22) (tgt := 32) cx dL_types_22 rfl hf (fun hf => ?_) (fun hf => ?_)
      · refine g_sub [1, 2, 3] [(0, .ref a0), (1, .long j1), (3, .int x3)] rfl ?_
        exact w_L_types_32 cx en h0 (fun _ _ hf => ih hf) hf
      · refine g_aload_n (pc := 25) cx dL_types_25 rfl 1 rfl ?_
        refine g_iload (pc := 26) cx dL_types_26 0 rfl ?_
        obtain ⟨q4, M2, hc3, hf⟩ := obn_some2 hf
        refine g_callVi (pc := 28) [.int v1] [] cx lk_L_77 vw_X8 (LTramWires_o h0) (by decide) (c_X8_type h0 hc3) dL_types_28 (Nat.le_of_ble_eq_true rfl) ?_
        refine g_pop (pc := 31) cx dL_types_31 rfl ?_
        refine g_sub [1, 2, 3] [(0, .ref a0), (1, .long j1), (3, .int x3)] rfl ?_
        exact w_L_types_32 cx en h0 (fun _ _ hf => ih hf) hf
set_option maxHeartbeats 4000000 in
set_option maxRecDepth 100000 in
theorem c_L_types {l : Launch} {w : Wp} {L : Ly} {a0 : Nat} {M : Mm} {j1 : Int64} {R0 : Int32 × Mm} (h0 : LTramWires w L (a0)) (hf : f_L_types a0 M j1 = some R0) : CT l w L yL_types cL_types 5 none 2 [.ref a0, .long j1] M R0 := by
  unfold f_L_types at hf
  refine CT_of pn_L (Nat.le_of_ble_eq_true rfl) (fun E cx en => ?_)
  have cx : Ok w L E RL cL_types 5 2 := cx
  show G l w L E M [(0, .ref a0), (1, .long j1)] 0 []
  refine g_bipush (pc := 0) (v := 7) cx dL_types_0 (by decide) ?_
  refine g_istore_n (pc := 2) cx [(3, .int 7), (0, .ref a0), (1, .long j1)] dL_types_2 rfl (by decide) rfl ?_
  refine g_sub [1, 2, 0] [(0, .ref a0), (1, .long j1), (3, .int 7)] rfl ?_
  exact w_L_types_3 cx en h0 FU hf
/-! L_isFault -/
def b_L_isFault_46 (a0 : Nat) (M : Mm) (s0 : Int32) : OR := zrk s0 (some (s0, M))
def b_L_isFault_45 (a0 : Nat) (M : Mm) : OR := b_L_isFault_46 a0 M 0
def f_L_isFault (a0 : Nat) (M : Mm) (j1 : Int64) (j3 : Int64) (j5 : Int64) (x7 : Int32) (x8 : Int32) : OR := obn (f_X8_clearText a0 M) fun q3 M1 => (obn (f_L_types a0 M1 j1) fun _ M4 => (obn (f_L_types a0 M4 j3) fun _ M7 => (obn (f_L_types a0 M7 j5) fun _ M10 => (obn (f_X8_fault a0 M10 0) fun q15 M13 => (if q15 = x7 then obn (f_X8_fault a0 M13 1) fun q18 M16 => (if q18 = x8 then b_L_isFault_46 a0 M16 1 else b_L_isFault_45 a0 M16) else b_L_isFault_45 a0 M13)))))
set_option maxHeartbeats 4000000 in
set_option maxRecDepth 100000 in
theorem w_L_isFault_46 {l : Launch} {w : Wp} {L : Ly} {E : Cx} {a0 : Nat} {s0 : Int32} {R0 : Int32 × Mm} (cx : Ok w L E RL cL_isFault 9 7) (en : En w L E (some .boolean) R0) (h0 : LTramWires w L (a0)) {M : Mm} (hf : b_L_isFault_46 a0 M s0 = some R0) : G l w L E M [] 46 [.int s0] := by
  unfold b_L_isFault_46 at hf
  exact g_zret (pc := 46) cx en dL_isFault_46 hf
set_option maxHeartbeats 4000000 in
set_option maxRecDepth 100000 in
theorem w_L_isFault_45 {l : Launch} {w : Wp} {L : Ly} {E : Cx} {a0 : Nat} {R0 : Int32 × Mm} (cx : Ok w L E RL cL_isFault 9 7) (en : En w L E (some .boolean) R0) (h0 : LTramWires w L (a0)) {M : Mm} (hf : b_L_isFault_45 a0 M = some R0) : G l w L E M [] 45 [] := by
  unfold b_L_isFault_45 at hf
  refine g_iconst (pc := 45) (v := 0) cx dL_isFault_45 (by decide) ?_
  exact w_L_isFault_46 cx en h0 hf
set_option maxHeartbeats 4000000 in
set_option maxRecDepth 100000 in
theorem c_L_isFault {l : Launch} {w : Wp} {L : Ly} {a0 : Nat} {M : Mm} {j1 : Int64} {j3 : Int64} {j5 : Int64} {x7 : Int32} {x8 : Int32} {R0 : Int32 × Mm} (h0 : LTramWires w L (a0)) (hf : f_L_isFault a0 M j1 j3 j5 x7 x8 = some R0) : CT l w L yL_isFault cL_isFault 9 (some .boolean) 7 [.ref a0, .long j1, .long j3, .long j5, .int x7, .int x8] M R0 := by
  unfold f_L_isFault at hf
  refine CT_of pn_L (Nat.le_of_ble_eq_true rfl) (fun E cx en => ?_)
  have cx : Ok w L E RL cL_isFault 9 7 := cx
  show G l w L E M [(0, .ref a0), (1, .long j1), (3, .long j3), (5, .long j5), (7, .int x7), (8, .int x8)] 0 []
  refine g_aload_n (pc := 0) cx dL_isFault_0 rfl 0 rfl ?_
  obtain ⟨q3, M1, hc2, hf⟩ := obn_some2 hf
  refine g_callVi (pc := 1) [] [] cx lk_L_86 vw_X8 (LTramWires_o h0) (by decide) (c_X8_clearText h0 hc2) dL_isFault_1 (Nat.le_of_ble_eq_true rfl) ?_
  refine g_pop (pc := 4) cx dL_isFault_4 rfl ?_
  refine g_aload_n (pc := 5) cx dL_isFault_5 rfl 0 rfl ?_
  refine g_lload_n (pc := 6) cx dL_isFault_6 rfl 1 rfl ?_
  obtain ⟨q6, M4, hc5, hf⟩ := obn_some2 hf
  refine g_callSv (pc := 7) [.ref a0, .long j1] [] cx lk_L_90 (by decide) (c_L_types h0 hc5) dL_isFault_7 (Nat.le_of_ble_eq_true rfl) ?_
  refine g_aload_n (pc := 10) cx dL_isFault_10 rfl 0 rfl ?_
  refine g_lload_n (pc := 11) cx dL_isFault_11 rfl 2 rfl ?_
  obtain ⟨q9, M7, hc8, hf⟩ := obn_some2 hf
  refine g_callSv (pc := 12) [.ref a0, .long j3] [] cx lk_L_90 (by decide) (c_L_types h0 hc8) dL_isFault_12 (Nat.le_of_ble_eq_true rfl) ?_
  refine g_aload_n (pc := 15) cx dL_isFault_15 rfl 0 rfl ?_
  refine g_lload (pc := 16) cx dL_isFault_16 3 rfl ?_
  obtain ⟨q12, M10, hc11, hf⟩ := obn_some2 hf
  refine g_callSv (pc := 18) [.ref a0, .long j5] [] cx lk_L_90 (by decide) (c_L_types h0 hc11) dL_isFault_18 (Nat.le_of_ble_eq_true rfl) ?_
  refine g_aload_n (pc := 21) cx dL_isFault_21 rfl 0 rfl ?_
  refine g_iconst (pc := 22) (v := 0) cx dL_isFault_22 (by decide) ?_
  obtain ⟨q15, M13, hc14, hf⟩ := obn_some2 hf
  refine g_callVi (pc := 23) [.int 0] [] cx lk_L_80 vw_X8 (LTramWires_o h0) (by decide) (c_X8_fault h0 hc14) dL_isFault_23 (Nat.le_of_ble_eq_true rfl) ?_
  refine g_iload (pc := 26) cx dL_isFault_26 4 rfl ?_
  refine g_icmp_ne (pc := 28) (tgt := 45) cx dL_isFault_28 rfl hf (fun hf => ?_) (fun hf => ?_)
  · refine g_aload_n (pc := 31) cx dL_isFault_31 rfl 0 rfl ?_
    refine g_iconst (pc := 32) (v := 1) cx dL_isFault_32 (by decide) ?_
    obtain ⟨q18, M16, hc17, hf⟩ := obn_some2 hf
    refine g_callVi (pc := 33) [.int 1] [] cx lk_L_80 vw_X8 (LTramWires_o h0) (by decide) (c_X8_fault h0 hc17) dL_isFault_33 (Nat.le_of_ble_eq_true rfl) ?_
    refine g_iload (pc := 36) cx dL_isFault_36 5 rfl ?_
    refine g_icmp_ne (pc := 38) (tgt := 45) cx dL_isFault_38 rfl hf (fun hf => ?_) (fun hf => ?_)
    · refine g_iconst (pc := 41) (v := 1) cx dL_isFault_41 (by decide) ?_
      refine g_goto (pc := 42) (tgt := 46) cx dL_isFault_42 rfl ?_
      refine g_sub [] [] rfl ?_
      exact w_L_isFault_46 cx en h0 hf
    · refine g_sub [] [] rfl ?_
      exact w_L_isFault_45 cx en h0 hf
  · refine g_sub [] [] rfl ?_
    exact w_L_isFault_45 cx en h0 hf
