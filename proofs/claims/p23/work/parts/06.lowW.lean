/-! X8_isOutside -/
def b_X8_isOutside_15 (M : Mm) (s0 : Int32) : OR := zrk s0 (some (s0, M))
def b_X8_isOutside_10 (M : Mm) : OR := b_X8_isOutside_15 M 1
def f_X8_isOutside (M : Mm) (x0 : Int32) (x1 : Int32) (x2 : Int32) : OR := if x0 < x1 then b_X8_isOutside_10 M else if x2 < x0 then b_X8_isOutside_10 M else b_X8_isOutside_15 M 0
set_option maxHeartbeats 4000000 in
set_option maxRecDepth 100000 in
theorem w_X8_isOutside_15 {l : Launch} {w : Wp} {L : Ly} {E : Cx} {s0 : Int32} {R0 : Int32 × Mm} (cx : Ok w L E RX8 cX8_isOutside 3 0) (en : En w L E (some .boolean) R0)  {M : Mm} (hf : b_X8_isOutside_15 M s0 = some R0) : G l w L E M [] 15 [.int s0] := by
  unfold b_X8_isOutside_15 at hf
  exact g_zret (pc := 15) cx en dX8_isOutside_15 hf
set_option maxHeartbeats 4000000 in
set_option maxRecDepth 100000 in
theorem w_X8_isOutside_10 {l : Launch} {w : Wp} {L : Ly} {E : Cx} {R0 : Int32 × Mm} (cx : Ok w L E RX8 cX8_isOutside 3 0) (en : En w L E (some .boolean) R0)  {M : Mm} (hf : b_X8_isOutside_10 M = some R0) : G l w L E M [] 10 [] := by
  unfold b_X8_isOutside_10 at hf
  refine g_iconst (pc := 10) (v := 1) cx dX8_isOutside_10 (by decide) ?_
  refine g_goto (pc := 11) (tgt := 15) cx dX8_isOutside_11 rfl ?_
  exact w_X8_isOutside_15 cx en hf
set_option maxHeartbeats 4000000 in
set_option maxRecDepth 100000 in
theorem c_X8_isOutside {l : Launch} {w : Wp} {L : Ly} {M : Mm} {x0 : Int32} {x1 : Int32} {x2 : Int32} {R0 : Int32 × Mm}  (hf : f_X8_isOutside M x0 x1 x2 = some R0) : CT l w L yX8_isOutside cX8_isOutside 3 (some .boolean) 0 [.int x0, .int x1, .int x2] M R0 := by
  unfold f_X8_isOutside at hf
  refine CT_of pn_X8 (Nat.le_of_ble_eq_true rfl) (fun E cx en => ?_)
  have cx : Ok w L E RX8 cX8_isOutside 3 0 := cx
  show G l w L E M [(0, .int x0), (1, .int x1), (2, .int x2)] 0 []
  refine g_iload_n (pc := 0) cx dX8_isOutside_0 rfl 0 rfl ?_
  refine g_iload_n (pc := 1) cx dX8_isOutside_1 rfl 1 rfl ?_
  refine g_icmp_lt (pc := 2) (tgt := 10) cx dX8_isOutside_2 rfl hf (fun hf => ?_) (fun hf => ?_)
  · refine g_sub [] [] rfl ?_
    exact w_X8_isOutside_10 cx en hf
  · refine g_iload_n (pc := 5) cx dX8_isOutside_5 rfl 0 rfl ?_
    refine g_iload_n (pc := 6) cx dX8_isOutside_6 rfl 2 rfl ?_
    refine g_icmp_le (pc := 7) (tgt := 14) cx dX8_isOutside_7 rfl hf (fun hf => ?_) (fun hf => ?_)
    · refine g_sub [] [] rfl ?_
      exact w_X8_isOutside_10 cx en hf
    · refine g_iconst (pc := 14) (v := 0) cx dX8_isOutside_14 (by decide) ?_
      refine g_sub [] [] rfl ?_
      exact w_X8_isOutside_15 cx en hf
/-! X8_asNumber -/
def b_X8_asNumber_9 (M : Mm) (s0 : Int32) : OR := some (s0, M)
def f_X8_asNumber (M : Mm) (x0 : Int32) : OR := if x0 = 0 then b_X8_asNumber_9 M 0 else b_X8_asNumber_9 M 1
set_option maxHeartbeats 4000000 in
set_option maxRecDepth 100000 in
theorem w_X8_asNumber_9 {l : Launch} {w : Wp} {L : Ly} {E : Cx} {s0 : Int32} {R0 : Int32 × Mm} (cx : Ok w L E RX8 cX8_asNumber 1 0) (en : En w L E (some .int) R0)  {M : Mm} (hf : b_X8_asNumber_9 M s0 = some R0) : G l w L E M [] 9 [.int s0] := by
  unfold b_X8_asNumber_9 at hf
  exact g_iret (pc := 9) cx en dX8_asNumber_9 rfl hf
set_option maxHeartbeats 4000000 in
set_option maxRecDepth 100000 in
theorem c_X8_asNumber {l : Launch} {w : Wp} {L : Ly} {M : Mm} {x0 : Int32} {R0 : Int32 × Mm}  (hf : f_X8_asNumber M x0 = some R0) : CT l w L yX8_asNumber cX8_asNumber 1 (some .int) 0 [.int x0] M R0 := by
  unfold f_X8_asNumber at hf
  refine CT_of pn_X8 (Nat.le_of_ble_eq_true rfl) (fun E cx en => ?_)
  have cx : Ok w L E RX8 cX8_asNumber 1 0 := cx
  show G l w L E M [(0, .int x0)] 0 []
  refine g_iload_n (pc := 0) cx dX8_asNumber_0 rfl 0 rfl ?_
  refine g_if_eq (pc := 1) (tgt := 8) cx dX8_asNumber_1 rfl hf (fun hf => ?_) (fun hf => ?_)
  · refine g_iconst (pc := 8) (v := 0) cx dX8_asNumber_8 (by decide) ?_
    refine g_sub [] [] rfl ?_
    exact w_X8_asNumber_9 cx en hf
  · refine g_iconst (pc := 4) (v := 1) cx dX8_asNumber_4 (by decide) ?_
    refine g_goto (pc := 5) (tgt := 9) cx dX8_asNumber_5 rfl ?_
    refine g_sub [] [] rfl ?_
    exact w_X8_asNumber_9 cx en hf
/-! X8_countTrue -/
def b_X8_countTrue_19 (a0 : Nat) (rc4 : Mm → Int32 → Int32 → OR) (M : Mm) (x1 : Int32) (x2 : Int32) : OR := rc4 M x1 (x2 + 1)
def l_X8_countTrue_4 (a0 : Nat) : Nat → Mm → Int32 → Int32 → OR
  | 0, _, _, _ => none
  | k + 1, M, x1, x2 => if x2 < 10 then ckd x2 10 (if (zb (M a0 (ix x2))) = 0 then b_X8_countTrue_19 a0 (l_X8_countTrue_4 a0 k) M x1 x2 else b_X8_countTrue_19 a0 (l_X8_countTrue_4 a0 k) M (x1 + 1) x2) else some (x1, M)
def f_X8_countTrue (a0 : Nat) (M : Mm) : OR := l_X8_countTrue_4 a0 FU M 0 0
set_option maxHeartbeats 4000000 in
set_option maxRecDepth 100000 in
theorem w_X8_countTrue_19 {l : Launch} {w : Wp} {L : Ly} {E : Cx} {a0 : Nat} {rc4 : Mm → Int32 → Int32 → OR} {x1 : Int32} {x2 : Int32} {R0 : Int32 × Mm} (cx : Ok w L E RX8 cX8_countTrue 3 0) (en : En w L E (some .int) R0) (h0 : L (a0) = some (gZ w 10)) (hrc4 : ∀ (M : Mm) (x1 : Int32) (x2 : Int32), rc4 M x1 x2 = some R0 → G l w L E M [(0, .ref a0), (1, .int x1), (2, .int x2)] 4 []) {M : Mm} (hf : b_X8_countTrue_19 a0 rc4 M x1 x2 = some R0) : G l w L E M [(0, .ref a0), (1, .int x1), (2, .int x2)] 19 [] := by
  unfold b_X8_countTrue_19 at hf
  refine g_iinc (pc := 19) cx [(2, .int (x2 + 1)), (0, .ref a0), (1, .int x1)] dX8_countTrue_19 2 rfl rfl (by decide) rfl ?_
  refine g_goto (pc := 22) (tgt := 4) cx dX8_countTrue_22 rfl ?_
  refine g_sub [1, 2, 0] [(0, .ref a0), (1, .int x1), (2, .int (x2 + 1))] rfl ?_
  exact hrc4 _ _ _ hf
set_option maxHeartbeats 4000000 in
set_option maxRecDepth 100000 in
theorem w_X8_countTrue_4 {l : Launch} {w : Wp} {L : Ly} {E : Cx} {a0 : Nat} {R0 : Int32 × Mm} (cx : Ok w L E RX8 cX8_countTrue 3 0) (en : En w L E (some .int) R0) (h0 : L (a0) = some (gZ w 10)) : ∀ (k : Nat) {M : Mm} {x1 : Int32} {x2 : Int32}, l_X8_countTrue_4 a0 k M x1 x2 = some R0 → G l w L E M [(0, .ref a0), (1, .int x1), (2, .int x2)] 4 [] := by
  intro k
  induction k with
  | zero =>
    intro M x1 x2 hf
    exact absurd hf (by simp [l_X8_countTrue_4])
  | succ k ih =>
    intro M x1 x2 hf
    unfold l_X8_countTrue_4 at hf
    refine g_iload_n (pc := 4) cx dX8_countTrue_4 rfl 2 rfl ?_
    refine g_aload_n (pc := 5) cx dX8_countTrue_5 rfl 0 rfl ?_
    refine g_alenZ (pc := 6) (v := 10) cx h0 rfl dX8_countTrue_6 ?_
    refine g_icmp_ge (pc := 7) (tgt := 25) cx dX8_countTrue_7 rfl hf (fun hf => ?_) (fun hf => ?_)
    · refine g_aload_n (pc := 10) cx dX8_countTrue_10 rfl 0 rfl ?_
      refine g_iload_n (pc := 11) cx dX8_countTrue_11 rfl 2 rfl ?_
      refine g_zald (pc := 12) cx h0 dX8_countTrue_12 hf (fun hf => ?_)
      refine g_if_eq (pc := 13) (tgt := 19) cx dX8_countTrue_13 rfl hf (fun hf => ?_) (fun hf => ?_)
      · exact w_X8_countTrue_19 cx en h0 (fun _ _ _ hf => ih hf) hf
      · refine g_iinc (pc := 16) cx [(1, .int (x1 + 1)), (0, .ref a0), (2, .int x2)] dX8_countTrue_16 1 rfl rfl (by decide) rfl ?_
        refine g_sub [1, 0, 2] [(0, .ref a0), (1, .int (x1 + 1)), (2, .int x2)] rfl ?_
        exact w_X8_countTrue_19 cx en h0 (fun _ _ _ hf => ih hf) hf
    · refine g_iload_n (pc := 25) cx dX8_countTrue_25 rfl 1 rfl ?_
      exact g_iret (pc := 26) cx en dX8_countTrue_26 rfl hf
set_option maxHeartbeats 4000000 in
set_option maxRecDepth 100000 in
theorem c_X8_countTrue {l : Launch} {w : Wp} {L : Ly} {a0 : Nat} {M : Mm} {R0 : Int32 × Mm} (h0 : L (a0) = some (gZ w 10)) (hf : f_X8_countTrue a0 M = some R0) : CT l w L yX8_countTrue cX8_countTrue 3 (some .int) 0 [.ref a0] M R0 := by
  unfold f_X8_countTrue at hf
  refine CT_of pn_X8 (Nat.le_of_ble_eq_true rfl) (fun E cx en => ?_)
  have cx : Ok w L E RX8 cX8_countTrue 3 0 := cx
  show G l w L E M [(0, .ref a0)] 0 []
  refine g_iconst (pc := 0) (v := 0) cx dX8_countTrue_0 (by decide) ?_
  refine g_istore_n (pc := 1) cx [(1, .int 0), (0, .ref a0)] dX8_countTrue_1 rfl (by decide) rfl ?_
  refine g_iconst (pc := 2) (v := 0) cx dX8_countTrue_2 (by decide) ?_
  refine g_istore_n (pc := 3) cx [(2, .int 0), (1, .int 0), (0, .ref a0)] dX8_countTrue_3 rfl (by decide) rfl ?_
  refine g_sub [2, 1, 0] [(0, .ref a0), (1, .int 0), (2, .int 0)] rfl ?_
  exact w_X8_countTrue_4 cx en h0 FU hf
/-! X5_copyFrom -/
def f_X5_copyFrom (a0 a1 : Nat) (M : Mm) : OR := bnd (mst M a0 0 (M a1 0)) fun M1 => bnd (mst M1 a0 1 (M1 a1 1)) fun M2 => bnd (mst M2 a0 2 (M2 a1 2)) fun M3 => cpk 0 0 10 10 10 (bnd (mrow M3 (a0 + 1) (va_cpy (M3 (a1 + 1)) (M3 (a0 + 1)) (ix 0) (ix 0) (ix 10))) fun M4 => cpk 0 0 10 10 10 (bnd (mrow M4 (a0 + 2) (va_cpy (M4 (a1 + 2)) (M4 (a0 + 2)) (ix 0) (ix 0) (ix 10))) fun M5 => cpk 0 0 10 10 10 (bnd (mrow M5 (a0 + 3) (va_cpy (M5 (a1 + 3)) (M5 (a0 + 3)) (ix 0) (ix 0) (ix 10))) fun M6 => cpk 0 0 10 10 10 (bnd (mrow M6 (a0 + 4) (va_cpy (M6 (a1 + 4)) (M6 (a0 + 4)) (ix 0) (ix 0) (ix 10))) fun M7 => cpk 0 0 10 10 10 (bnd (mrow M7 (a0 + 5) (va_cpy (M7 (a1 + 5)) (M7 (a0 + 5)) (ix 0) (ix 0) (ix 10))) fun M8 => cpk 0 0 10 10 10 (bnd (mrow M8 (a0 + 6) (va_cpy (M8 (a1 + 6)) (M8 (a0 + 6)) (ix 0) (ix 0) (ix 10))) fun M9 => cpk 0 0 10 10 10 (bnd (mrow M9 (a0 + 7) (va_cpy (M9 (a1 + 7)) (M9 (a0 + 7)) (ix 0) (ix 0) (ix 10))) fun M10 => some (0, M10))))))))
set_option maxHeartbeats 4000000 in
set_option maxRecDepth 100000 in
theorem c_X5_copyFrom {l : Launch} {w : Wp} {L : Ly} {a0 a1 : Nat} {M : Mm} {R0 : Int32 × Mm} (h0 : LService w L (a0)) (h1 : LService w L (a1)) (hf : f_X5_copyFrom a0 a1 M = some R0) : CT l w L yX5_copyFrom cX5_copyFrom 2 none 1 [.ref a0, .ref a1] M R0 := by
  unfold f_X5_copyFrom at hf
  refine CT_of pn_X5 (Nat.le_of_ble_eq_true rfl) (fun E cx en => ?_)
  have cx : Ok w L E RX5 cX5_copyFrom 2 1 := cx
  show G l w L E M [(0, .ref a0), (1, .ref a1)] 0 []
  refine g_aload_n (pc := 0) cx dX5_copyFrom_0 rfl 0 rfl ?_
  refine g_aload_n (pc := 1) cx dX5_copyFrom_1 rfl 1 rfl ?_
  refine fg_X5_38 (pc := 2) cx dX5_copyFrom_2 h1 ?_
  refine fp_X5_38 (pc := 5) cx dX5_copyFrom_5 h0 hf (fun M1 hf => ?_)
  refine g_aload_n (pc := 8) cx dX5_copyFrom_8 rfl 0 rfl ?_
  refine g_aload_n (pc := 9) cx dX5_copyFrom_9 rfl 1 rfl ?_
  refine fg_X5_9 (pc := 10) cx dX5_copyFrom_10 h1 ?_
  refine fp_X5_9 (pc := 13) cx dX5_copyFrom_13 h0 hf (fun M2 hf => ?_)
  refine g_aload_n (pc := 16) cx dX5_copyFrom_16 rfl 0 rfl ?_
  refine g_aload_n (pc := 17) cx dX5_copyFrom_17 rfl 1 rfl ?_
  refine fg_X5_41 (pc := 18) cx dX5_copyFrom_18 h1 ?_
  refine fp_X5_41 (pc := 21) cx dX5_copyFrom_21 h0 hf (fun M3 hf => ?_)
  refine g_aload_n (pc := 24) cx dX5_copyFrom_24 rfl 1 rfl ?_
  refine fg_X5_15 (pc := 25) cx dX5_copyFrom_25 h1 ?_
  refine g_iconst (pc := 28) (v := 0) cx dX5_copyFrom_28 (by decide) ?_
  refine g_aload_n (pc := 29) cx dX5_copyFrom_29 rfl 0 rfl ?_
  refine fg_X5_15 (pc := 30) cx dX5_copyFrom_30 h0 ?_
  refine g_iconst (pc := 33) (v := 0) cx dX5_copyFrom_33 (by decide) ?_
  refine g_bipush (pc := 34) (v := 10) cx dX5_copyFrom_34 (by decide) ?_
  refine g_cpyI (pc := 36) cx (by decide) tm_X5_44 (LService_needed h1) (LService_needed h0) dX5_copyFrom_36 hf (Nat.le_of_ble_eq_true rfl) (fun M4 hf => ?_)
  refine g_aload_n (pc := 39) cx dX5_copyFrom_39 rfl 1 rfl ?_
  refine fg_X5_19 (pc := 40) cx dX5_copyFrom_40 h1 ?_
  refine g_iconst (pc := 43) (v := 0) cx dX5_copyFrom_43 (by decide) ?_
  refine g_aload_n (pc := 44) cx dX5_copyFrom_44 rfl 0 rfl ?_
  refine fg_X5_19 (pc := 45) cx dX5_copyFrom_45 h0 ?_
  refine g_iconst (pc := 48) (v := 0) cx dX5_copyFrom_48 (by decide) ?_
  refine g_bipush (pc := 49) (v := 10) cx dX5_copyFrom_49 (by decide) ?_
  refine g_cpyZ (pc := 51) cx (by decide) tm_X5_44 (LService_bridged h1) (LService_bridged h0) dX5_copyFrom_51 hf (Nat.le_of_ble_eq_true rfl) (fun M5 hf => ?_)
  refine g_aload_n (pc := 54) cx dX5_copyFrom_54 rfl 1 rfl ?_
  refine fg_X5_23 (pc := 55) cx dX5_copyFrom_55 h1 ?_
  refine g_iconst (pc := 58) (v := 0) cx dX5_copyFrom_58 (by decide) ?_
  refine g_aload_n (pc := 59) cx dX5_copyFrom_59 rfl 0 rfl ?_
  refine fg_X5_23 (pc := 60) cx dX5_copyFrom_60 h0 ?_
  refine g_iconst (pc := 63) (v := 0) cx dX5_copyFrom_63 (by decide) ?_
  refine g_bipush (pc := 64) (v := 10) cx dX5_copyFrom_64 (by decide) ?_
  refine g_cpyZ (pc := 66) cx (by decide) tm_X5_44 (LService_earthed h1) (LService_earthed h0) dX5_copyFrom_66 hf (Nat.le_of_ble_eq_true rfl) (fun M6 hf => ?_)
  refine g_aload_n (pc := 69) cx dX5_copyFrom_69 rfl 1 rfl ?_
  refine fg_X5_26 (pc := 70) cx dX5_copyFrom_70 h1 ?_
  refine g_iconst (pc := 73) (v := 0) cx dX5_copyFrom_73 (by decide) ?_
  refine g_aload_n (pc := 74) cx dX5_copyFrom_74 rfl 0 rfl ?_
  refine fg_X5_26 (pc := 75) cx dX5_copyFrom_75 h0 ?_
  refine g_iconst (pc := 78) (v := 0) cx dX5_copyFrom_78 (by decide) ?_
  refine g_bipush (pc := 79) (v := 10) cx dX5_copyFrom_79 (by decide) ?_
  refine g_cpyZ (pc := 81) cx (by decide) tm_X5_44 (LService_gang h1) (LService_gang h0) dX5_copyFrom_81 hf (Nat.le_of_ble_eq_true rfl) (fun M7 hf => ?_)
  refine g_aload_n (pc := 84) cx dX5_copyFrom_84 rfl 1 rfl ?_
  refine fg_X5_29 (pc := 85) cx dX5_copyFrom_85 h1 ?_
  refine g_iconst (pc := 88) (v := 0) cx dX5_copyFrom_88 (by decide) ?_
  refine g_aload_n (pc := 89) cx dX5_copyFrom_89 rfl 0 rfl ?_
  refine fg_X5_29 (pc := 90) cx dX5_copyFrom_90 h0 ?_
  refine g_iconst (pc := 93) (v := 0) cx dX5_copyFrom_93 (by decide) ?_
  refine g_bipush (pc := 94) (v := 10) cx dX5_copyFrom_94 (by decide) ?_
  refine g_cpyI (pc := 96) cx (by decide) tm_X5_44 (LService_brought h1) (LService_brought h0) dX5_copyFrom_96 hf (Nat.le_of_ble_eq_true rfl) (fun M8 hf => ?_)
  refine g_aload_n (pc := 99) cx dX5_copyFrom_99 rfl 1 rfl ?_
  refine fg_X5_32 (pc := 100) cx dX5_copyFrom_100 h1 ?_
  refine g_iconst (pc := 103) (v := 0) cx dX5_copyFrom_103 (by decide) ?_
  refine g_aload_n (pc := 104) cx dX5_copyFrom_104 rfl 0 rfl ?_
  refine fg_X5_32 (pc := 105) cx dX5_copyFrom_105 h0 ?_
  refine g_iconst (pc := 108) (v := 0) cx dX5_copyFrom_108 (by decide) ?_
  refine g_bipush (pc := 109) (v := 10) cx dX5_copyFrom_109 (by decide) ?_
  refine g_cpyI (pc := 111) cx (by decide) tm_X5_44 (LService_until h1) (LService_until h0) dX5_copyFrom_111 hf (Nat.le_of_ble_eq_true rfl) (fun M9 hf => ?_)
  refine g_aload_n (pc := 114) cx dX5_copyFrom_114 rfl 1 rfl ?_
  refine fg_X5_35 (pc := 115) cx dX5_copyFrom_115 h1 ?_
  refine g_iconst (pc := 118) (v := 0) cx dX5_copyFrom_118 (by decide) ?_
  refine g_aload_n (pc := 119) cx dX5_copyFrom_119 rfl 0 rfl ?_
  refine fg_X5_35 (pc := 120) cx dX5_copyFrom_120 h0 ?_
  refine g_iconst (pc := 123) (v := 0) cx dX5_copyFrom_123 (by decide) ?_
  refine g_bipush (pc := 124) (v := 10) cx dX5_copyFrom_124 (by decide) ?_
  refine g_cpyI (pc := 126) cx (by decide) tm_X5_44 (LService_tools h1) (LService_tools h0) dX5_copyFrom_126 hf (Nat.le_of_ble_eq_true rfl) (fun M10 hf => ?_)
  exact g_vret (pc := 129) cx en dX5_copyFrom_129 hf
/-! X5_bridgingBuses -/
def b_X5_bridgingBuses_28 (a0 : Nat) (rc4 : Mm → Int32 → Int32 → OR) (M : Mm) (x1 : Int32) (x2 : Int32) : OR := rc4 M x1 (x2 + 1)
def l_X5_bridgingBuses_4 (a0 : Nat) : Nat → Mm → Int32 → Int32 → OR
  | 0, _, _, _ => none
  | k + 1, M, x1, x2 => if x2 < 10 then ckd x2 10 (if (zb (M (a0 + 2) (ix x2))) = 0 then b_X5_bridgingBuses_28 a0 (l_X5_bridgingBuses_4 a0 k) M x1 x2 else ckd x2 10 (bnd (x1 + (M (a0 + 1) (ix x2))) fun v1 => b_X5_bridgingBuses_28 a0 (l_X5_bridgingBuses_4 a0 k) M v1 x2)) else some (x1, M)
def f_X5_bridgingBuses (a0 : Nat) (M : Mm) : OR := l_X5_bridgingBuses_4 a0 FU M 0 0
set_option maxHeartbeats 4000000 in
set_option maxRecDepth 100000 in
theorem w_X5_bridgingBuses_28 {l : Launch} {w : Wp} {L : Ly} {E : Cx} {a0 : Nat} {rc4 : Mm → Int32 → Int32 → OR} {x1 : Int32} {x2 : Int32} {R0 : Int32 × Mm} (cx : Ok w L E RX5 cX5_bridgingBuses 3 0) (en : En w L E (some .int) R0) (h0 : LService w L (a0)) (hrc4 : ∀ (M : Mm) (x1 : Int32) (x2 : Int32), rc4 M x1 x2 = some R0 → G l w L E M [(0, .ref a0), (1, .int x1), (2, .int x2)] 4 []) {M : Mm} (hf : b_X5_bridgingBuses_28 a0 rc4 M x1 x2 = some R0) : G l w L E M [(0, .ref a0), (1, .int x1), (2, .int x2)] 28 [] := by
  unfold b_X5_bridgingBuses_28 at hf
  refine g_iinc (pc := 28) cx [(2, .int (x2 + 1)), (0, .ref a0), (1, .int x1)] dX5_bridgingBuses_28 2 rfl rfl (by decide) rfl ?_
  refine g_goto (pc := 31) (tgt := 4) cx dX5_bridgingBuses_31 rfl ?_
  refine g_sub [1, 2, 0] [(0, .ref a0), (1, .int x1), (2, .int (x2 + 1))] rfl ?_
  exact hrc4 _ _ _ hf
set_option maxHeartbeats 4000000 in
set_option maxRecDepth 100000 in
theorem w_X5_bridgingBuses_4 {l : Launch} {w : Wp} {L : Ly} {E : Cx} {a0 : Nat} {R0 : Int32 × Mm} (cx : Ok w L E RX5 cX5_bridgingBuses 3 0) (en : En w L E (some .int) R0) (h0 : LService w L (a0)) : ∀ (k : Nat) {M : Mm} {x1 : Int32} {x2 : Int32}, l_X5_bridgingBuses_4 a0 k M x1 x2 = some R0 → G l w L E M [(0, .ref a0), (1, .int x1), (2, .int x2)] 4 [] := by
  intro k
  induction k with
  | zero =>
    intro M x1 x2 hf
    exact absurd hf (by simp [l_X5_bridgingBuses_4])
  | succ k ih =>
    intro M x1 x2 hf
    unfold l_X5_bridgingBuses_4 at hf
    refine g_iload_n (pc := 4) cx dX5_bridgingBuses_4 rfl 2 rfl ?_
    refine g_bipush (pc := 5) (v := 10) cx dX5_bridgingBuses_5 (by decide) ?_
    refine g_icmp_ge (pc := 7) (tgt := 34) cx dX5_bridgingBuses_7 rfl hf (fun hf => ?_) (fun hf => ?_)
    · refine g_aload_n (pc := 10) cx dX5_bridgingBuses_10 rfl 0 rfl ?_
      refine fg_X5_19 (pc := 11) cx dX5_bridgingBuses_11 h0 ?_
      refine g_iload_n (pc := 14) cx dX5_bridgingBuses_14 rfl 2 rfl ?_
      refine g_zald (pc := 15) cx (LService_bridged h0) dX5_bridgingBuses_15 hf (fun hf => ?_)
      refine g_if_eq (pc := 16) (tgt := 28) cx dX5_bridgingBuses_16 rfl hf (fun hf => ?_) (fun hf => ?_)
      · exact w_X5_bridgingBuses_28 cx en h0 (fun _ _ _ hf => ih hf) hf
      · refine g_iload_n (pc := 19) cx dX5_bridgingBuses_19 rfl 1 rfl ?_
        refine g_aload_n (pc := 20) cx dX5_bridgingBuses_20 rfl 0 rfl ?_
        refine fg_X5_15 (pc := 21) cx dX5_bridgingBuses_21 h0 ?_
        refine g_iload_n (pc := 24) cx dX5_bridgingBuses_24 rfl 2 rfl ?_
        refine g_iald (pc := 25) cx (LService_needed h0) dX5_bridgingBuses_25 hf (fun hf => ?_)
        refine g_iadd (pc := 26) cx dX5_bridgingBuses_26 ?_
        refine g_nm hf (fun v1 hf => ?_)
        refine g_istore_n (pc := 27) cx [(1, .int v1), (0, .ref a0), (2, .int x2)] dX5_bridgingBuses_27 rfl (by decide) rfl ?_
        refine g_sub [1, 0, 2] [(0, .ref a0), (1, .int v1), (2, .int x2)] rfl ?_
        exact w_X5_bridgingBuses_28 cx en h0 (fun _ _ _ hf => ih hf) hf
    · refine g_iload_n (pc := 34) cx dX5_bridgingBuses_34 rfl 1 rfl ?_
      exact g_iret (pc := 35) cx en dX5_bridgingBuses_35 rfl hf
set_option maxHeartbeats 4000000 in
set_option maxRecDepth 100000 in
theorem c_X5_bridgingBuses {l : Launch} {w : Wp} {L : Ly} {a0 : Nat} {M : Mm} {R0 : Int32 × Mm} (h0 : LService w L (a0)) (hf : f_X5_bridgingBuses a0 M = some R0) : CT l w L yX5_bridgingBuses cX5_bridgingBuses 3 (some .int) 0 [.ref a0] M R0 := by
  unfold f_X5_bridgingBuses at hf
  refine CT_of pn_X5 (Nat.le_of_ble_eq_true rfl) (fun E cx en => ?_)
  have cx : Ok w L E RX5 cX5_bridgingBuses 3 0 := cx
  show G l w L E M [(0, .ref a0)] 0 []
  refine g_iconst (pc := 0) (v := 0) cx dX5_bridgingBuses_0 (by decide) ?_
  refine g_istore_n (pc := 1) cx [(1, .int 0), (0, .ref a0)] dX5_bridgingBuses_1 rfl (by decide) rfl ?_
  refine g_iconst (pc := 2) (v := 0) cx dX5_bridgingBuses_2 (by decide) ?_
  refine g_istore_n (pc := 3) cx [(2, .int 0), (1, .int 0), (0, .ref a0)] dX5_bridgingBuses_3 rfl (by decide) rfl ?_
  refine g_sub [2, 1, 0] [(0, .ref a0), (1, .int 0), (2, .int 0)] rfl ?_
  exact w_X5_bridgingBuses_4 cx en h0 FU hf
/-! X5_freeBuses -/
def f_X5_freeBuses (a0 : Nat) (M : Mm) : OR := obn (f_X5_bridgingBuses a0 M) fun q3 M1 => (some (((M a0 1) - q3), M1))
set_option maxHeartbeats 4000000 in
set_option maxRecDepth 100000 in
theorem c_X5_freeBuses {l : Launch} {w : Wp} {L : Ly} {a0 : Nat} {M : Mm} {R0 : Int32 × Mm} (h0 : LService w L (a0)) (hf : f_X5_freeBuses a0 M = some R0) : CT l w L yX5_freeBuses cX5_freeBuses 1 (some .int) 1 [.ref a0] M R0 := by
  unfold f_X5_freeBuses at hf
  refine CT_of pn_X5 (Nat.le_of_ble_eq_true rfl) (fun E cx en => ?_)
  have cx : Ok w L E RX5 cX5_freeBuses 1 1 := cx
  show G l w L E M [(0, .ref a0)] 0 []
  refine g_aload_n (pc := 0) cx dX5_freeBuses_0 rfl 0 rfl ?_
  refine fg_X5_9 (pc := 1) cx dX5_freeBuses_1 h0 ?_
  refine g_aload_n (pc := 4) cx dX5_freeBuses_4 rfl 0 rfl ?_
  obtain ⟨q3, M1, hc2, hf⟩ := obn_some2 hf
  refine g_callVi (pc := 5) [] [.int (M a0 1)] cx lk_X5_50 vw_X5 (LService_o h0) (by decide) (c_X5_bridgingBuses h0 hc2) dX5_freeBuses_5 (Nat.le_of_ble_eq_true rfl) ?_
  refine g_isub (pc := 8) cx dX5_freeBuses_8 ?_
  exact g_iret (pc := 9) cx en dX5_freeBuses_9 rfl hf
/-! X5_allTools -/
def l_X5_allTools_4 (a0 : Nat) : Nat → Mm → Int32 → Int32 → OR
  | 0, _, _, _ => none
  | k + 1, M, x1, x2 => if x2 < 10 then ckd x2 10 (bnd (x1 + (M (a0 + 7) (ix x2))) fun v1 => l_X5_allTools_4 a0 k M v1 (x2 + 1)) else some (x1, M)
def f_X5_allTools (a0 : Nat) (M : Mm) : OR := l_X5_allTools_4 a0 FU M 0 0
set_option maxHeartbeats 4000000 in
set_option maxRecDepth 100000 in
theorem w_X5_allTools_4 {l : Launch} {w : Wp} {L : Ly} {E : Cx} {a0 : Nat} {R0 : Int32 × Mm} (cx : Ok w L E RX5 cX5_allTools 3 0) (en : En w L E (some .int) R0) (h0 : LService w L (a0)) : ∀ (k : Nat) {M : Mm} {x1 : Int32} {x2 : Int32}, l_X5_allTools_4 a0 k M x1 x2 = some R0 → G l w L E M [(0, .ref a0), (1, .int x1), (2, .int x2)] 4 [] := by
  intro k
  induction k with
  | zero =>
    intro M x1 x2 hf
    exact absurd hf (by simp [l_X5_allTools_4])
  | succ k ih =>
    intro M x1 x2 hf
    unfold l_X5_allTools_4 at hf
    refine g_iload_n (pc := 4) cx dX5_allTools_4 rfl 2 rfl ?_
    refine g_bipush (pc := 5) (v := 10) cx dX5_allTools_5 (by decide) ?_
    refine g_icmp_ge (pc := 7) (tgt := 25) cx dX5_allTools_7 rfl hf (fun hf => ?_) (fun hf => ?_)
    · refine g_iload_n (pc := 10) cx dX5_allTools_10 rfl 1 rfl ?_
      refine g_aload_n (pc := 11) cx dX5_allTools_11 rfl 0 rfl ?_
      refine fg_X5_35 (pc := 12) cx dX5_allTools_12 h0 ?_
      refine g_iload_n (pc := 15) cx dX5_allTools_15 rfl 2 rfl ?_
      refine g_iald (pc := 16) cx (LService_tools h0) dX5_allTools_16 hf (fun hf => ?_)
      refine g_iadd (pc := 17) cx dX5_allTools_17 ?_
      refine g_nm hf (fun v1 hf => ?_)
      refine g_istore_n (pc := 18) cx [(1, .int v1), (0, .ref a0), (2, .int x2)] dX5_allTools_18 rfl (by decide) rfl ?_
      refine g_iinc (pc := 19) cx [(2, .int (x2 + 1)), (1, .int v1), (0, .ref a0)] dX5_allTools_19 2 rfl rfl (by decide) rfl ?_
      refine g_goto (pc := 22) (tgt := 4) cx dX5_allTools_22 rfl ?_
      refine g_sub [2, 1, 0] [(0, .ref a0), (1, .int v1), (2, .int (x2 + 1))] rfl ?_
      exact ih hf
    · refine g_iload_n (pc := 25) cx dX5_allTools_25 rfl 1 rfl ?_
      exact g_iret (pc := 26) cx en dX5_allTools_26 rfl hf
set_option maxHeartbeats 4000000 in
set_option maxRecDepth 100000 in
theorem c_X5_allTools {l : Launch} {w : Wp} {L : Ly} {a0 : Nat} {M : Mm} {R0 : Int32 × Mm} (h0 : LService w L (a0)) (hf : f_X5_allTools a0 M = some R0) : CT l w L yX5_allTools cX5_allTools 3 (some .int) 0 [.ref a0] M R0 := by
  unfold f_X5_allTools at hf
  refine CT_of pn_X5 (Nat.le_of_ble_eq_true rfl) (fun E cx en => ?_)
  have cx : Ok w L E RX5 cX5_allTools 3 0 := cx
  show G l w L E M [(0, .ref a0)] 0 []
  refine g_iconst (pc := 0) (v := 0) cx dX5_allTools_0 (by decide) ?_
  refine g_istore_n (pc := 1) cx [(1, .int 0), (0, .ref a0)] dX5_allTools_1 rfl (by decide) rfl ?_
  refine g_iconst (pc := 2) (v := 0) cx dX5_allTools_2 (by decide) ?_
  refine g_istore_n (pc := 3) cx [(2, .int 0), (1, .int 0), (0, .ref a0)] dX5_allTools_3 rfl (by decide) rfl ?_
  refine g_sub [2, 1, 0] [(0, .ref a0), (1, .int 0), (2, .int 0)] rfl ?_
  exact w_X5_allTools_4 cx en h0 FU hf
/-! X5_lateGangs -/
def b_X5_lateGangs_35 (a0 : Nat) (rc4 : Mm → Int32 → Int32 → OR) (M : Mm) (x1 : Int32) (x2 : Int32) : OR := rc4 M x1 (x2 + 1)
def l_X5_lateGangs_4 (a0 : Nat) : Nat → Mm → Int32 → Int32 → OR
  | 0, _, _, _ => none
  | k + 1, M, x1, x2 => if x2 < 10 then ckd x2 10 (if (zb (M (a0 + 4) (ix x2))) = 0 then b_X5_lateGangs_35 a0 (l_X5_lateGangs_4 a0 k) M x1 x2 else ckd x2 10 (if (M (a0 + 6) (ix x2)) < (M a0 0) then b_X5_lateGangs_35 a0 (l_X5_lateGangs_4 a0 k) M (x1 + 1) x2 else b_X5_lateGangs_35 a0 (l_X5_lateGangs_4 a0 k) M x1 x2)) else some (x1, M)
def f_X5_lateGangs (a0 : Nat) (M : Mm) : OR := l_X5_lateGangs_4 a0 FU M 0 0
set_option maxHeartbeats 4000000 in
set_option maxRecDepth 100000 in
theorem w_X5_lateGangs_35 {l : Launch} {w : Wp} {L : Ly} {E : Cx} {a0 : Nat} {rc4 : Mm → Int32 → Int32 → OR} {x1 : Int32} {x2 : Int32} {R0 : Int32 × Mm} (cx : Ok w L E RX5 cX5_lateGangs 3 0) (en : En w L E (some .int) R0) (h0 : LService w L (a0)) (hrc4 : ∀ (M : Mm) (x1 : Int32) (x2 : Int32), rc4 M x1 x2 = some R0 → G l w L E M [(0, .ref a0), (1, .int x1), (2, .int x2)] 4 []) {M : Mm} (hf : b_X5_lateGangs_35 a0 rc4 M x1 x2 = some R0) : G l w L E M [(0, .ref a0), (1, .int x1), (2, .int x2)] 35 [] := by
  unfold b_X5_lateGangs_35 at hf
  refine g_iinc (pc := 35) cx [(2, .int (x2 + 1)), (0, .ref a0), (1, .int x1)] dX5_lateGangs_35 2 rfl rfl (by decide) rfl ?_
  refine g_goto (pc := 38) (tgt := 4) cx dX5_lateGangs_38 rfl ?_
  refine g_sub [1, 2, 0] [(0, .ref a0), (1, .int x1), (2, .int (x2 + 1))] rfl ?_
  exact hrc4 _ _ _ hf
set_option maxHeartbeats 4000000 in
set_option maxRecDepth 100000 in
theorem w_X5_lateGangs_4 {l : Launch} {w : Wp} {L : Ly} {E : Cx} {a0 : Nat} {R0 : Int32 × Mm} (cx : Ok w L E RX5 cX5_lateGangs 3 0) (en : En w L E (some .int) R0) (h0 : LService w L (a0)) : ∀ (k : Nat) {M : Mm} {x1 : Int32} {x2 : Int32}, l_X5_lateGangs_4 a0 k M x1 x2 = some R0 → G l w L E M [(0, .ref a0), (1, .int x1), (2, .int x2)] 4 [] := by
  intro k
  induction k with
  | zero =>
    intro M x1 x2 hf
    exact absurd hf (by simp [l_X5_lateGangs_4])
  | succ k ih =>
    intro M x1 x2 hf
    unfold l_X5_lateGangs_4 at hf
    refine g_iload_n (pc := 4) cx dX5_lateGangs_4 rfl 2 rfl ?_
    refine g_bipush (pc := 5) (v := 10) cx dX5_lateGangs_5 (by decide) ?_
    refine g_icmp_ge (pc := 7) (tgt := 41) cx dX5_lateGangs_7 rfl hf (fun hf => ?_) (fun hf => ?_)
    · refine g_aload_n (pc := 10) cx dX5_lateGangs_10 rfl 0 rfl ?_
      refine fg_X5_26 (pc := 11) cx dX5_lateGangs_11 h0 ?_
      refine g_iload_n (pc := 14) cx dX5_lateGangs_14 rfl 2 rfl ?_
      refine g_zald (pc := 15) cx (LService_gang h0) dX5_lateGangs_15 hf (fun hf => ?_)
      refine g_if_eq (pc := 16) (tgt := 35) cx dX5_lateGangs_16 rfl hf (fun hf => ?_) (fun hf => ?_)
      · exact w_X5_lateGangs_35 cx en h0 (fun _ _ _ hf => ih hf) hf
      · refine g_aload_n (pc := 19) cx dX5_lateGangs_19 rfl 0 rfl ?_
        refine fg_X5_38 (pc := 20) cx dX5_lateGangs_20 h0 ?_
        refine g_aload_n (pc := 23) cx dX5_lateGangs_23 rfl 0 rfl ?_
        refine fg_X5_32 (pc := 24) cx dX5_lateGangs_24 h0 ?_
        refine g_iload_n (pc := 27) cx dX5_lateGangs_27 rfl 2 rfl ?_
        refine g_iald (pc := 28) cx (LService_until h0) dX5_lateGangs_28 hf (fun hf => ?_)
        refine g_icmp_le (pc := 29) (tgt := 35) cx dX5_lateGangs_29 rfl hf (fun hf => ?_) (fun hf => ?_)
        · refine g_iinc (pc := 32) cx [(1, .int (x1 + 1)), (0, .ref a0), (2, .int x2)] dX5_lateGangs_32 1 rfl rfl (by decide) rfl ?_
          refine g_sub [1, 0, 2] [(0, .ref a0), (1, .int (x1 + 1)), (2, .int x2)] rfl ?_
          exact w_X5_lateGangs_35 cx en h0 (fun _ _ _ hf => ih hf) hf
        · exact w_X5_lateGangs_35 cx en h0 (fun _ _ _ hf => ih hf) hf
    · refine g_iload_n (pc := 41) cx dX5_lateGangs_41 rfl 1 rfl ?_
      exact g_iret (pc := 42) cx en dX5_lateGangs_42 rfl hf
set_option maxHeartbeats 4000000 in
set_option maxRecDepth 100000 in
theorem c_X5_lateGangs {l : Launch} {w : Wp} {L : Ly} {a0 : Nat} {M : Mm} {R0 : Int32 × Mm} (h0 : LService w L (a0)) (hf : f_X5_lateGangs a0 M = some R0) : CT l w L yX5_lateGangs cX5_lateGangs 3 (some .int) 0 [.ref a0] M R0 := by
  unfold f_X5_lateGangs at hf
  refine CT_of pn_X5 (Nat.le_of_ble_eq_true rfl) (fun E cx en => ?_)
  have cx : Ok w L E RX5 cX5_lateGangs 3 0 := cx
  show G l w L E M [(0, .ref a0)] 0 []
  refine g_iconst (pc := 0) (v := 0) cx dX5_lateGangs_0 (by decide) ?_
  refine g_istore_n (pc := 1) cx [(1, .int 0), (0, .ref a0)] dX5_lateGangs_1 rfl (by decide) rfl ?_
  refine g_iconst (pc := 2) (v := 0) cx dX5_lateGangs_2 (by decide) ?_
  refine g_istore_n (pc := 3) cx [(2, .int 0), (1, .int 0), (0, .ref a0)] dX5_lateGangs_3 rfl (by decide) rfl ?_
  refine g_sub [2, 1, 0] [(0, .ref a0), (1, .int 0), (2, .int 0)] rfl ?_
  exact w_X5_lateGangs_4 cx en h0 FU hf
/-! X5_bringGang -/
def f_X5_bringGang (a0 : Nat) (M : Mm) (x1 : Int32) (x2 : Int32) (x3 : Int32) : OR := ckd x1 10 (bnd (mst M (a0 + 4) (ix x1) 1) fun M1 => ckd x1 10 (bnd (mst M1 (a0 + 5) (ix x1) x2) fun M2 => ckd x1 10 (bnd (mst M2 (a0 + 6) (ix x1) x3) fun M3 => some (0, M3))))
set_option maxHeartbeats 4000000 in
set_option maxRecDepth 100000 in
theorem c_X5_bringGang {l : Launch} {w : Wp} {L : Ly} {a0 : Nat} {M : Mm} {x1 : Int32} {x2 : Int32} {x3 : Int32} {R0 : Int32 × Mm} (h0 : LService w L (a0)) (hf : f_X5_bringGang a0 M x1 x2 x3 = some R0) : CT l w L yX5_bringGang cX5_bringGang 4 none 0 [.ref a0, .int x1, .int x2, .int x3] M R0 := by
  unfold f_X5_bringGang at hf
  refine CT_of pn_X5 (Nat.le_of_ble_eq_true rfl) (fun E cx en => ?_)
  have cx : Ok w L E RX5 cX5_bringGang 4 0 := cx
  show G l w L E M [(0, .ref a0), (1, .int x1), (2, .int x2), (3, .int x3)] 0 []
  refine g_aload_n (pc := 0) cx dX5_bringGang_0 rfl 0 rfl ?_
  refine fg_X5_26 (pc := 1) cx dX5_bringGang_1 h0 ?_
  refine g_iload_n (pc := 4) cx dX5_bringGang_4 rfl 1 rfl ?_
  refine g_iconst (pc := 5) (v := 1) cx dX5_bringGang_5 (by decide) ?_
  refine g_zast (pc := 6) cx (LService_gang h0) dX5_bringGang_6 hf (fun M1 hf => ?_)
  refine g_aload_n (pc := 7) cx dX5_bringGang_7 rfl 0 rfl ?_
  refine fg_X5_29 (pc := 8) cx dX5_bringGang_8 h0 ?_
  refine g_iload_n (pc := 11) cx dX5_bringGang_11 rfl 1 rfl ?_
  refine g_iload_n (pc := 12) cx dX5_bringGang_12 rfl 2 rfl ?_
  refine g_iast (pc := 13) cx (LService_brought h0) dX5_bringGang_13 hf (fun M2 hf => ?_)
  refine g_aload_n (pc := 14) cx dX5_bringGang_14 rfl 0 rfl ?_
  refine fg_X5_32 (pc := 15) cx dX5_bringGang_15 h0 ?_
  refine g_iload_n (pc := 18) cx dX5_bringGang_18 rfl 1 rfl ?_
  refine g_iload_n (pc := 19) cx dX5_bringGang_19 rfl 3 rfl ?_
  refine g_iast (pc := 20) cx (LService_until h0) dX5_bringGang_20 hf (fun M3 hf => ?_)
  exact g_vret (pc := 21) cx en dX5_bringGang_21 hf
/-! X5_sendGangOff -/
def f_X5_sendGangOff (a0 : Nat) (M : Mm) (x1 : Int32) (x2 : Int32) : OR := ckd x1 10 (bnd (if 0 < ((M a0 0) - (M (a0 + 6) (ix x1))) then ((M a0 0) - (M (a0 + 6) (ix x1))) else 0) fun v1 => ckd x1 10 (bnd (mst M (a0 + 4) (ix x1) 0) fun M2 => ckd x1 10 (ckd x1 10 (ckd x1 10 (bnd (mst M2 (a0 + 7) (ix x1) ((M2 (a0 + 7) (ix x1)) + ((M2 (a0 + 5) (ix x1)) - x2))) fun M3 => bnd (mst M3 a0 2 ((M3 a0 2) + v1)) fun M4 => some (v1, M4))))))
set_option maxHeartbeats 4000000 in
set_option maxRecDepth 100000 in
theorem c_X5_sendGangOff {l : Launch} {w : Wp} {L : Ly} {a0 : Nat} {M : Mm} {x1 : Int32} {x2 : Int32} {R0 : Int32 × Mm} (h0 : LService w L (a0)) (hf : f_X5_sendGangOff a0 M x1 x2 = some R0) : CT l w L yX5_sendGangOff cX5_sendGangOff 4 (some .int) 1 [.ref a0, .int x1, .int x2] M R0 := by
  unfold f_X5_sendGangOff at hf
  refine CT_of pn_X5 (Nat.le_of_ble_eq_true rfl) (fun E cx en => ?_)
  have cx : Ok w L E RX5 cX5_sendGangOff 4 1 := cx
  show G l w L E M [(0, .ref a0), (1, .int x1), (2, .int x2)] 0 []
  refine g_iconst (pc := 0) (v := 0) cx dX5_sendGangOff_0 (by decide) ?_
  refine g_aload_n (pc := 1) cx dX5_sendGangOff_1 rfl 0 rfl ?_
  refine fg_X5_38 (pc := 2) cx dX5_sendGangOff_2 h0 ?_
  refine g_aload_n (pc := 5) cx dX5_sendGangOff_5 rfl 0 rfl ?_
  refine fg_X5_32 (pc := 6) cx dX5_sendGangOff_6 h0 ?_
  refine g_iload_n (pc := 9) cx dX5_sendGangOff_9 rfl 1 rfl ?_
  refine g_iald (pc := 10) cx (LService_until h0) dX5_sendGangOff_10 hf (fun hf => ?_)
  refine g_isub (pc := 11) cx dX5_sendGangOff_11 ?_
  refine g_max (pc := 12) cx (by decide) tm_X5_54 dX5_sendGangOff_12 (Nat.le_of_ble_eq_true rfl) ?_
  refine g_nm hf (fun v1 hf => ?_)
  refine g_istore_n (pc := 15) cx [(3, .int v1), (0, .ref a0), (1, .int x1), (2, .int x2)] dX5_sendGangOff_15 rfl (by decide) rfl ?_
  refine g_aload_n (pc := 16) cx dX5_sendGangOff_16 rfl 1 rfl ?_
  refine fg_X5_26 (pc := 17) cx dX5_sendGangOff_17 h0 ?_
  refine g_iload_n (pc := 20) cx dX5_sendGangOff_20 rfl 2 rfl ?_
  refine g_iconst (pc := 21) (v := 0) cx dX5_sendGangOff_21 (by decide) ?_
  refine g_zast (pc := 22) cx (LService_gang h0) dX5_sendGangOff_22 hf (fun M2 hf => ?_)
  refine g_aload_n (pc := 23) cx dX5_sendGangOff_23 rfl 1 rfl ?_
  refine fg_X5_35 (pc := 24) cx dX5_sendGangOff_24 h0 ?_
  refine g_iload_n (pc := 27) cx dX5_sendGangOff_27 rfl 2 rfl ?_
  refine g_dup2 (pc := 28) cx dX5_sendGangOff_28 rfl rfl ?_
  refine g_iald (pc := 29) cx (LService_tools h0) dX5_sendGangOff_29 hf (fun hf => ?_)
  refine g_aload_n (pc := 30) cx dX5_sendGangOff_30 rfl 1 rfl ?_
  refine fg_X5_29 (pc := 31) cx dX5_sendGangOff_31 h0 ?_
  refine g_iload_n (pc := 34) cx dX5_sendGangOff_34 rfl 2 rfl ?_
  refine g_iald (pc := 35) cx (LService_brought h0) dX5_sendGangOff_35 hf (fun hf => ?_)
  refine g_iload_n (pc := 36) cx dX5_sendGangOff_36 rfl 3 rfl ?_
  refine g_isub (pc := 37) cx dX5_sendGangOff_37 ?_
  refine g_iadd (pc := 38) cx dX5_sendGangOff_38 ?_
  refine g_iast (pc := 39) cx (LService_tools h0) dX5_sendGangOff_39 hf (fun M3 hf => ?_)
  refine g_aload_n (pc := 40) cx dX5_sendGangOff_40 rfl 1 rfl ?_
  refine g_dup (pc := 41) cx dX5_sendGangOff_41 rfl ?_
  refine fg_X5_41 (pc := 42) cx dX5_sendGangOff_42 h0 ?_
  refine g_iload_n (pc := 45) cx dX5_sendGangOff_45 rfl 0 rfl ?_
  refine g_iadd (pc := 46) cx dX5_sendGangOff_46 ?_
  refine fp_X5_41 (pc := 47) cx dX5_sendGangOff_47 h0 hf (fun M4 hf => ?_)
  refine g_iload_n (pc := 50) cx dX5_sendGangOff_50 rfl 0 rfl ?_
  exact g_iret (pc := 51) cx en dX5_sendGangOff_51 rfl hf
/-! X2_copyFrom -/
def f_X2_copyFrom (a0 a1 : Nat) (M : Mm) : OR := bnd (mst M a0 0 (M a1 0)) fun M1 => bnd (mst M1 a0 1 (M1 a1 1)) fun M2 => cpk 0 0 10 10 10 (bnd (mrow M2 (a0 + 1) (va_cpy (M2 (a1 + 1)) (M2 (a0 + 1)) (ix 0) (ix 0) (ix 10))) fun M3 => cpk 0 0 16 16 16 (bnd (mrow M3 (a0 + 2) (va_cpy (M3 (a1 + 2)) (M3 (a0 + 2)) (ix 0) (ix 0) (ix 16))) fun M4 => cpk 0 0 16 16 16 (bnd (mrow M4 (a0 + 3) (va_cpy (M4 (a1 + 3)) (M4 (a0 + 3)) (ix 0) (ix 0) (ix 16))) fun M5 => cpk 0 0 16 16 16 (bnd (mrow M5 (a0 + 4) (va_cpy (M5 (a1 + 4)) (M5 (a0 + 4)) (ix 0) (ix 0) (ix 16))) fun M6 => cpk 0 0 10 10 10 (bnd (mrow M6 (a0 + 5) (va_cpy (M6 (a1 + 5)) (M6 (a0 + 5)) (ix 0) (ix 0) (ix 10))) fun M7 => cpk 0 0 10 10 10 (bnd (mrow M7 (a0 + 6) (va_cpy (M7 (a1 + 6)) (M7 (a0 + 6)) (ix 0) (ix 0) (ix 10))) fun M8 => some (0, M8)))))))
set_option maxHeartbeats 4000000 in
set_option maxRecDepth 100000 in
theorem c_X2_copyFrom {l : Launch} {w : Wp} {L : Ly} {a0 a1 : Nat} {M : Mm} {R0 : Int32 × Mm} (h0 : LNet w L (a0)) (h1 : LNet w L (a1)) (hf : f_X2_copyFrom a0 a1 M = some R0) : CT l w L yX2_copyFrom cX2_copyFrom 2 none 1 [.ref a0, .ref a1] M R0 := by
  unfold f_X2_copyFrom at hf
  refine CT_of pn_X2 (Nat.le_of_ble_eq_true rfl) (fun E cx en => ?_)
  have cx : Ok w L E RX2 cX2_copyFrom 2 1 := cx
  show G l w L E M [(0, .ref a0), (1, .ref a1)] 0 []
  refine g_aload_n (pc := 0) cx dX2_copyFrom_0 rfl 0 rfl ?_
  refine g_aload_n (pc := 1) cx dX2_copyFrom_1 rfl 1 rfl ?_
  refine fg_X2_31 (pc := 2) cx dX2_copyFrom_2 h1 ?_
  refine fp_X2_31 (pc := 5) cx dX2_copyFrom_5 h0 hf (fun M1 hf => ?_)
  refine g_aload_n (pc := 8) cx dX2_copyFrom_8 rfl 0 rfl ?_
  refine g_aload_n (pc := 9) cx dX2_copyFrom_9 rfl 1 rfl ?_
  refine fg_X2_35 (pc := 10) cx dX2_copyFrom_10 h1 ?_
  refine fp_X2_35 (pc := 13) cx dX2_copyFrom_13 h0 hf (fun M2 hf => ?_)
  refine g_aload_n (pc := 16) cx dX2_copyFrom_16 rfl 1 rfl ?_
  refine fg_X2_9 (pc := 17) cx dX2_copyFrom_17 h1 ?_
  refine g_iconst (pc := 20) (v := 0) cx dX2_copyFrom_20 (by decide) ?_
  refine g_aload_n (pc := 21) cx dX2_copyFrom_21 rfl 0 rfl ?_
  refine fg_X2_9 (pc := 22) cx dX2_copyFrom_22 h0 ?_
  refine g_iconst (pc := 25) (v := 0) cx dX2_copyFrom_25 (by decide) ?_
  refine g_bipush (pc := 26) (v := 10) cx dX2_copyFrom_26 (by decide) ?_
  refine g_cpyI (pc := 28) cx (by decide) tm_X2_38 (LNet_feeder h1) (LNet_feeder h0) dX2_copyFrom_28 hf (Nat.le_of_ble_eq_true rfl) (fun M3 hf => ?_)
  refine g_aload_n (pc := 31) cx dX2_copyFrom_31 rfl 1 rfl ?_
  refine fg_X2_15 (pc := 32) cx dX2_copyFrom_32 h1 ?_
  refine g_iconst (pc := 35) (v := 0) cx dX2_copyFrom_35 (by decide) ?_
  refine g_aload_n (pc := 36) cx dX2_copyFrom_36 rfl 0 rfl ?_
  refine fg_X2_15 (pc := 37) cx dX2_copyFrom_37 h0 ?_
  refine g_iconst (pc := 40) (v := 0) cx dX2_copyFrom_40 (by decide) ?_
  refine g_bipush (pc := 41) (v := 16) cx dX2_copyFrom_41 (by decide) ?_
  refine g_cpyI (pc := 43) cx (by decide) tm_X2_38 (LNet_one h1) (LNet_one h0) dX2_copyFrom_43 hf (Nat.le_of_ble_eq_true rfl) (fun M4 hf => ?_)
  refine g_aload_n (pc := 46) cx dX2_copyFrom_46 rfl 1 rfl ?_
  refine fg_X2_18 (pc := 47) cx dX2_copyFrom_47 h1 ?_
  refine g_iconst (pc := 50) (v := 0) cx dX2_copyFrom_50 (by decide) ?_
  refine g_aload_n (pc := 51) cx dX2_copyFrom_51 rfl 0 rfl ?_
  refine fg_X2_18 (pc := 52) cx dX2_copyFrom_52 h0 ?_
  refine g_iconst (pc := 55) (v := 0) cx dX2_copyFrom_55 (by decide) ?_
  refine g_bipush (pc := 56) (v := 16) cx dX2_copyFrom_56 (by decide) ?_
  refine g_cpyI (pc := 58) cx (by decide) tm_X2_38 (LNet_other h1) (LNet_other h0) dX2_copyFrom_58 hf (Nat.le_of_ble_eq_true rfl) (fun M5 hf => ?_)
  refine g_aload_n (pc := 61) cx dX2_copyFrom_61 rfl 1 rfl ?_
  refine fg_X2_21 (pc := 62) cx dX2_copyFrom_62 h1 ?_
  refine g_iconst (pc := 65) (v := 0) cx dX2_copyFrom_65 (by decide) ?_
  refine g_aload_n (pc := 66) cx dX2_copyFrom_66 rfl 0 rfl ?_
  refine fg_X2_21 (pc := 67) cx dX2_copyFrom_67 h0 ?_
  refine g_iconst (pc := 70) (v := 0) cx dX2_copyFrom_70 (by decide) ?_
  refine g_bipush (pc := 71) (v := 16) cx dX2_copyFrom_71 (by decide) ?_
  refine g_cpyZ (pc := 73) cx (by decide) tm_X2_38 (LNet_closed h1) (LNet_closed h0) dX2_copyFrom_73 hf (Nat.le_of_ble_eq_true rfl) (fun M6 hf => ?_)
  refine g_aload_n (pc := 76) cx dX2_copyFrom_76 rfl 1 rfl ?_
  refine fg_X2_25 (pc := 77) cx dX2_copyFrom_77 h1 ?_
  refine g_iconst (pc := 80) (v := 0) cx dX2_copyFrom_80 (by decide) ?_
  refine g_aload_n (pc := 81) cx dX2_copyFrom_81 rfl 0 rfl ?_
  refine fg_X2_25 (pc := 82) cx dX2_copyFrom_82 h0 ?_
  refine g_iconst (pc := 85) (v := 0) cx dX2_copyFrom_85 (by decide) ?_
  refine g_bipush (pc := 86) (v := 10) cx dX2_copyFrom_86 (by decide) ?_
  refine g_cpyI (pc := 88) cx (by decide) tm_X2_38 (LNet_lowest h1) (LNet_lowest h0) dX2_copyFrom_88 hf (Nat.le_of_ble_eq_true rfl) (fun M7 hf => ?_)
  refine g_aload_n (pc := 91) cx dX2_copyFrom_91 rfl 1 rfl ?_
  refine fg_X2_28 (pc := 92) cx dX2_copyFrom_92 h1 ?_
  refine g_iconst (pc := 95) (v := 0) cx dX2_copyFrom_95 (by decide) ?_
  refine g_aload_n (pc := 96) cx dX2_copyFrom_96 rfl 0 rfl ?_
  refine fg_X2_28 (pc := 97) cx dX2_copyFrom_97 h0 ?_
  refine g_iconst (pc := 100) (v := 0) cx dX2_copyFrom_100 (by decide) ?_
  refine g_bipush (pc := 101) (v := 10) cx dX2_copyFrom_101 (by decide) ?_
  refine g_cpyZ (pc := 103) cx (by decide) tm_X2_38 (LNet_live h1) (LNet_live h0) dX2_copyFrom_103 hf (Nat.le_of_ble_eq_true rfl) (fun M8 hf => ?_)
  exact g_vret (pc := 106) cx en dX2_copyFrom_106 hf
/-! X2_feed -/
def b_X2_feed_55 (a0 : Nat) (rc25 : Mm → Int32 → OR) (M : Mm) (x1 : Int32) : OR := rc25 M (x1 + 1)
def l_X2_feed_63 (a0 : Nat) : Nat → Mm → Int32 → OR
  | 0, _, _ => none
  | k + 1, M, x1 => if x1 < (M a0 0) then ckd x1 10 (ckd (M (a0 + 5) (ix x1)) 10 (ckd x1 10 (bnd (mst M (a0 + 6) (ix x1) (zb (M (a0 + 6) (ix (M (a0 + 5) (ix x1)))))) fun M1 => l_X2_feed_63 a0 k M1 (x1 + 1)))) else some (0, M)
def l_X2_feed_25 (a0 : Nat) : Nat → Mm → Int32 → OR
  | 0, _, _ => none
  | k + 1, M, x1 => if x1 < (M a0 0) then ckd x1 10 (if (M (a0 + 1) (ix x1)) = 2 then ckd x1 10 (ckd (M (a0 + 5) (ix x1)) 10 (bnd (mst M (a0 + 6) (ix (M (a0 + 5) (ix x1))) 1) fun M1 => b_X2_feed_55 a0 (l_X2_feed_25 a0 k) M1 x1)) else b_X2_feed_55 a0 (l_X2_feed_25 a0 k) M x1) else l_X2_feed_63 a0 FU M 0
def l_X2_feed_2 (a0 : Nat) : Nat → Mm → Int32 → OR
  | 0, _, _ => none
  | k + 1, M, x1 => if x1 < (M a0 0) then ckd x1 10 (bnd (mst M (a0 + 6) (ix x1) 0) fun M1 => l_X2_feed_2 a0 k M1 (x1 + 1)) else l_X2_feed_25 a0 FU M 0
def f_X2_feed (a0 : Nat) (M : Mm) : OR := l_X2_feed_2 a0 FU M 0
set_option maxHeartbeats 4000000 in
set_option maxRecDepth 100000 in
theorem w_X2_feed_55 {l : Launch} {w : Wp} {L : Ly} {E : Cx} {a0 : Nat} {rc25 : Mm → Int32 → OR} {x1 : Int32} {R0 : Int32 × Mm} (cx : Ok w L E RX2 cX2_feed 2 0) (en : En w L E none R0) (h0 : LNet w L (a0)) (hrc25 : ∀ (M : Mm) (x1 : Int32), rc25 M x1 = some R0 → G l w L E M [(0, .ref a0), (1, .int x1)] 25 []) {M : Mm} (hf : b_X2_feed_55 a0 rc25 M x1 = some R0) : G l w L E M [(0, .ref a0), (1, .int x1)] 55 [] := by
  unfold b_X2_feed_55 at hf
  refine g_iinc (pc := 55) cx [(1, .int (x1 + 1)), (0, .ref a0)] dX2_feed_55 1 rfl rfl (by decide) rfl ?_
  refine g_goto (pc := 58) (tgt := 25) cx dX2_feed_58 rfl ?_
  refine g_sub [1, 0] [(0, .ref a0), (1, .int (x1 + 1))] rfl ?_
  exact hrc25 _ _ hf
set_option maxHeartbeats 4000000 in
set_option maxRecDepth 100000 in
theorem w_X2_feed_63 {l : Launch} {w : Wp} {L : Ly} {E : Cx} {a0 : Nat} {R0 : Int32 × Mm} (cx : Ok w L E RX2 cX2_feed 2 0) (en : En w L E none R0) (h0 : LNet w L (a0)) : ∀ (k : Nat) {M : Mm} {x1 : Int32}, l_X2_feed_63 a0 k M x1 = some R0 → G l w L E M [(0, .ref a0), (1, .int x1)] 63 [] := by
  intro k
  induction k with
  | zero =>
    intro M x1 hf
    exact absurd hf (by simp [l_X2_feed_63])
  | succ k ih =>
    intro M x1 hf
    unfold l_X2_feed_63 at hf
    refine g_iload_n (pc := 63) cx dX2_feed_63 rfl 1 rfl ?_
    refine g_aload_n (pc := 64) cx dX2_feed_64 rfl 0 rfl ?_
    refine fg_X2_31 (pc := 65) cx dX2_feed_65 h0 ?_
    refine g_icmp_ge (pc := 68) (tgt := 94) cx dX2_feed_68 rfl hf (fun hf => ?_) (fun hf => ?_)
    · refine g_aload_n (pc := 71) cx dX2_feed_71 rfl 0 rfl ?_
      refine fg_X2_28 (pc := 72) cx dX2_feed_72 h0 ?_
      refine g_iload_n (pc := 75) cx dX2_feed_75 rfl 1 rfl ?_
      refine g_aload_n (pc := 76) cx dX2_feed_76 rfl 0 rfl ?_
      refine fg_X2_28 (pc := 77) cx dX2_feed_77 h0 ?_
      refine g_aload_n (pc := 80) cx dX2_feed_80 rfl 0 rfl ?_
      refine fg_X2_25 (pc := 81) cx dX2_feed_81 h0 ?_
      refine g_iload_n (pc := 84) cx dX2_feed_84 rfl 1 rfl ?_
      refine g_iald (pc := 85) cx (LNet_lowest h0) dX2_feed_85 hf (fun hf => ?_)
      refine g_zald (pc := 86) cx (LNet_live h0) dX2_feed_86 hf (fun hf => ?_)
      refine g_zast (pc := 87) cx (LNet_live h0) dX2_feed_87 hf (fun M1 hf => ?_)
      refine g_iinc (pc := 88) cx [(1, .int (x1 + 1)), (0, .ref a0)] dX2_feed_88 1 rfl rfl (by decide) rfl ?_
      refine g_goto (pc := 91) (tgt := 63) cx dX2_feed_91 rfl ?_
      refine g_sub [1, 0] [(0, .ref a0), (1, .int (x1 + 1))] rfl ?_
      exact ih hf
    · exact g_vret (pc := 94) cx en dX2_feed_94 hf
set_option maxHeartbeats 4000000 in
set_option maxRecDepth 100000 in
theorem w_X2_feed_25 {l : Launch} {w : Wp} {L : Ly} {E : Cx} {a0 : Nat} {R0 : Int32 × Mm} (cx : Ok w L E RX2 cX2_feed 2 0) (en : En w L E none R0) (h0 : LNet w L (a0)) : ∀ (k : Nat) {M : Mm} {x1 : Int32}, l_X2_feed_25 a0 k M x1 = some R0 → G l w L E M [(0, .ref a0), (1, .int x1)] 25 [] := by
  intro k
  induction k with
  | zero =>
    intro M x1 hf
    exact absurd hf (by simp [l_X2_feed_25])
  | succ k ih =>
    intro M x1 hf
    unfold l_X2_feed_25 at hf
    refine g_iload_n (pc := 25) cx dX2_feed_25 rfl 1 rfl ?_
    refine g_aload_n (pc := 26) cx dX2_feed_26 rfl 0 rfl ?_
    refine fg_X2_31 (pc := 27) cx dX2_feed_27 h0 ?_
    refine g_icmp_ge (pc := 30) (tgt := 61) cx dX2_feed_30 rfl hf (fun hf => ?_) (fun hf => ?_)
    · refine g_aload_n (pc := 33) cx dX2_feed_33 rfl 0 rfl ?_
      refine fg_X2_9 (pc := 34) cx dX2_feed_34 h0 ?_
      refine g_iload_n (pc := 37) cx dX2_feed_37 rfl 1 rfl ?_
      refine g_iald (pc := 38) cx (LNet_feeder h0) dX2_feed_38 hf (fun hf => ?_)
      refine g_iconst (pc := 39) (v := 2) cx dX2_feed_39 (by decide) ?_
      refine g_icmp_ne (pc := 40) (tgt := 55) cx dX2_feed_40 rfl hf (fun hf => ?_) (fun hf => ?_)
      · refine g_aload_n (pc := 43) cx dX2_feed_43 rfl 0 rfl ?_
        refine fg_X2_28 (pc := 44) cx dX2_feed_44 h0 ?_
        refine g_aload_n (pc := 47) cx dX2_feed_47 rfl 0 rfl ?_
        refine fg_X2_25 (pc := 48) cx dX2_feed_48 h0 ?_
        refine g_iload_n (pc := 51) cx dX2_feed_51 rfl 1 rfl ?_
        refine g_iald (pc := 52) cx (LNet_lowest h0) dX2_feed_52 hf (fun hf => ?_)
        refine g_iconst (pc := 53) (v := 1) cx dX2_feed_53 (by decide) ?_
        refine g_zast (pc := 54) cx (LNet_live h0) dX2_feed_54 hf (fun M1 hf => ?_)
        exact w_X2_feed_55 cx en h0 (fun _ _ hf => ih hf) hf
      · exact w_X2_feed_55 cx en h0 (fun _ _ hf => ih hf) hf
    · refine g_iconst (pc := 61) (v := 0) cx dX2_feed_61 (by decide) ?_
      refine g_istore_n (pc := 62) cx [(1, .int 0), (0, .ref a0)] dX2_feed_62 rfl (by decide) rfl ?_
      refine g_sub [1, 0] [(0, .ref a0), (1, .int 0)] rfl ?_
      exact w_X2_feed_63 cx en h0 FU hf
set_option maxHeartbeats 4000000 in
set_option maxRecDepth 100000 in
theorem w_X2_feed_2 {l : Launch} {w : Wp} {L : Ly} {E : Cx} {a0 : Nat} {R0 : Int32 × Mm} (cx : Ok w L E RX2 cX2_feed 2 0) (en : En w L E none R0) (h0 : LNet w L (a0)) : ∀ (k : Nat) {M : Mm} {x1 : Int32}, l_X2_feed_2 a0 k M x1 = some R0 → G l w L E M [(0, .ref a0), (1, .int x1)] 2 [] := by
  intro k
  induction k with
  | zero =>
    intro M x1 hf
    exact absurd hf (by simp [l_X2_feed_2])
  | succ k ih =>
    intro M x1 hf
    unfold l_X2_feed_2 at hf
    refine g_iload_n (pc := 2) cx dX2_feed_2 rfl 1 rfl ?_
    refine g_aload_n (pc := 3) cx dX2_feed_3 rfl 0 rfl ?_
    refine fg_X2_31 (pc := 4) cx dX2_feed_4 h0 ?_
    refine g_icmp_ge (pc := 7) (tgt := 23) cx dX2_feed_7 rfl hf (fun hf => ?_) (fun hf => ?_)
    · refine g_aload_n (pc := 10) cx dX2_feed_10 rfl 0 rfl ?_
      refine fg_X2_28 (pc := 11) cx dX2_feed_11 h0 ?_
      refine g_iload_n (pc := 14) cx dX2_feed_14 rfl 1 rfl ?_
      refine g_iconst (pc := 15) (v := 0) cx dX2_feed_15 (by decide) ?_
      refine g_zast (pc := 16) cx (LNet_live h0) dX2_feed_16 hf (fun M1 hf => ?_)
      refine g_iinc (pc := 17) cx [(1, .int (x1 + 1)), (0, .ref a0)] dX2_feed_17 1 rfl rfl (by decide) rfl ?_
      refine g_goto (pc := 20) (tgt := 2) cx dX2_feed_20 rfl ?_
      refine g_sub [1, 0] [(0, .ref a0), (1, .int (x1 + 1))] rfl ?_
      exact ih hf
    · refine g_iconst (pc := 23) (v := 0) cx dX2_feed_23 (by decide) ?_
      refine g_istore_n (pc := 24) cx [(1, .int 0), (0, .ref a0)] dX2_feed_24 rfl (by decide) rfl ?_
      refine g_sub [1, 0] [(0, .ref a0), (1, .int 0)] rfl ?_
      exact w_X2_feed_25 cx en h0 FU hf
set_option maxHeartbeats 4000000 in
set_option maxRecDepth 100000 in
theorem c_X2_feed {l : Launch} {w : Wp} {L : Ly} {a0 : Nat} {M : Mm} {R0 : Int32 × Mm} (h0 : LNet w L (a0)) (hf : f_X2_feed a0 M = some R0) : CT l w L yX2_feed cX2_feed 2 none 0 [.ref a0] M R0 := by
  unfold f_X2_feed at hf
  refine CT_of pn_X2 (Nat.le_of_ble_eq_true rfl) (fun E cx en => ?_)
  have cx : Ok w L E RX2 cX2_feed 2 0 := cx
  show G l w L E M [(0, .ref a0)] 0 []
  refine g_iconst (pc := 0) (v := 0) cx dX2_feed_0 (by decide) ?_
  refine g_istore_n (pc := 1) cx [(1, .int 0), (0, .ref a0)] dX2_feed_1 rfl (by decide) rfl ?_
  refine g_sub [1, 0] [(0, .ref a0), (1, .int 0)] rfl ?_
  exact w_X2_feed_2 cx en h0 FU hf
/-! X2_setFeeder -/
def f_X2_setFeeder (a0 : Nat) (M : Mm) (x1 : Int32) (x2 : Int32) : OR := ckd x1 10 (bnd (mst M (a0 + 1) (ix x1) x2) fun M1 => obn (f_X2_feed a0 M1) fun _ M2 => (some (0, M2)))
set_option maxHeartbeats 4000000 in
set_option maxRecDepth 100000 in
theorem c_X2_setFeeder {l : Launch} {w : Wp} {L : Ly} {a0 : Nat} {M : Mm} {x1 : Int32} {x2 : Int32} {R0 : Int32 × Mm} (h0 : LNet w L (a0)) (hf : f_X2_setFeeder a0 M x1 x2 = some R0) : CT l w L yX2_setFeeder cX2_setFeeder 3 none 1 [.ref a0, .int x1, .int x2] M R0 := by
  unfold f_X2_setFeeder at hf
  refine CT_of pn_X2 (Nat.le_of_ble_eq_true rfl) (fun E cx en => ?_)
  have cx : Ok w L E RX2 cX2_setFeeder 3 1 := cx
  show G l w L E M [(0, .ref a0), (1, .int x1), (2, .int x2)] 0 []
  refine g_aload_n (pc := 0) cx dX2_setFeeder_0 rfl 0 rfl ?_
  refine fg_X2_9 (pc := 1) cx dX2_setFeeder_1 h0 ?_
  refine g_iload_n (pc := 4) cx dX2_setFeeder_4 rfl 1 rfl ?_
  refine g_iload_n (pc := 5) cx dX2_setFeeder_5 rfl 2 rfl ?_
  refine g_iast (pc := 6) cx (LNet_feeder h0) dX2_setFeeder_6 hf (fun M1 hf => ?_)
  refine g_aload_n (pc := 7) cx dX2_setFeeder_7 rfl 0 rfl ?_
  obtain ⟨q4, M2, hc3, hf⟩ := obn_some2 hf
  refine g_callVv (pc := 8) [] [] cx lk_X2_44 vw_X2 (LNet_o h0) (by decide) (c_X2_feed h0 hc3) dX2_setFeeder_8 (Nat.le_of_ble_eq_true rfl) ?_
  exact g_vret (pc := 11) cx en dX2_setFeeder_11 hf
/-! X2_shareLowest -/
def b_X2_shareLowest_86 (a0 : Nat) (rc2 : Mm → Int32 → OR) (M : Mm) (x1 : Int32) : OR := rc2 M (x1 + 1)
def b_X2_shareLowest_63 (a0 : Nat) (rc2 : Mm → Int32 → OR) (M : Mm) (x1 : Int32) (s1 : Int32) (s2 : Int32) : OR := ckd s1 10 (bnd (mst M (a0 + 5) (ix s1) s2) fun M1 => ckd x1 16 (ckd x1 16 (ckd (M1 (a0 + 2) (ix x1)) 10 (ckd (M1 (a0 + 3) (ix x1)) 10 (bnd (mst M1 (a0 + 5) (ix (M1 (a0 + 3) (ix x1))) (M1 (a0 + 5) (ix (M1 (a0 + 2) (ix x1))))) fun M2 => b_X2_shareLowest_86 a0 rc2 M2 x1)))))
def l_X2_shareLowest_2 (a0 : Nat) : Nat → Mm → Int32 → OR
  | 0, _, _ => none
  | k + 1, M, x1 => if x1 < (M a0 1) then ckd x1 16 (if (zb (M (a0 + 4) (ix x1))) = 0 then b_X2_shareLowest_86 a0 (l_X2_shareLowest_2 a0 k) M x1 else ckd x1 16 (ckd (M (a0 + 2) (ix x1)) 10 (bnd (M (a0 + 5) (ix (M (a0 + 2) (ix x1)))) fun v1 => ckd x1 16 (ckd (M (a0 + 3) (ix x1)) 10 (bnd (M (a0 + 5) (ix (M (a0 + 3) (ix x1)))) fun v2 => ckd x1 16 (if v1 < v2 then b_X2_shareLowest_63 a0 (l_X2_shareLowest_2 a0 k) M x1 (M (a0 + 2) (ix x1)) v1 else b_X2_shareLowest_63 a0 (l_X2_shareLowest_2 a0 k) M x1 (M (a0 + 2) (ix x1)) v2)))))) else some (0, M)
def f_X2_shareLowest (a0 : Nat) (M : Mm) : OR := l_X2_shareLowest_2 a0 FU M 0
set_option maxHeartbeats 4000000 in
set_option maxRecDepth 100000 in
theorem w_X2_shareLowest_86 {l : Launch} {w : Wp} {L : Ly} {E : Cx} {a0 : Nat} {rc2 : Mm → Int32 → OR} {x1 : Int32} {R0 : Int32 × Mm} (cx : Ok w L E RX2 cX2_shareLowest 4 0) (en : En w L E none R0) (h0 : LNet w L (a0)) (hrc2 : ∀ (M : Mm) (x1 : Int32), rc2 M x1 = some R0 → G l w L E M [(0, .ref a0), (1, .int x1)] 2 []) {M : Mm} (hf : b_X2_shareLowest_86 a0 rc2 M x1 = some R0) : G l w L E M [(0, .ref a0), (1, .int x1)] 86 [] := by
  unfold b_X2_shareLowest_86 at hf
  refine g_iinc (pc := 86) cx [(1, .int (x1 + 1)), (0, .ref a0)] dX2_shareLowest_86 1 rfl rfl (by decide) rfl ?_
  refine g_goto (pc := 89) (tgt := 2) cx dX2_shareLowest_89 rfl ?_
  refine g_sub [1, 0] [(0, .ref a0), (1, .int (x1 + 1))] rfl ?_
  exact hrc2 _ _ hf
set_option maxHeartbeats 4000000 in
set_option maxRecDepth 100000 in
theorem w_X2_shareLowest_63 {l : Launch} {w : Wp} {L : Ly} {E : Cx} {a0 : Nat} {rc2 : Mm → Int32 → OR} {x1 : Int32} {s1 : Int32} {s2 : Int32} {R0 : Int32 × Mm} (cx : Ok w L E RX2 cX2_shareLowest 4 0) (en : En w L E none R0) (h0 : LNet w L (a0)) (hrc2 : ∀ (M : Mm) (x1 : Int32), rc2 M x1 = some R0 → G l w L E M [(0, .ref a0), (1, .int x1)] 2 []) {M : Mm} (hf : b_X2_shareLowest_63 a0 rc2 M x1 s1 s2 = some R0) : G l w L E M [(0, .ref a0), (1, .int x1)] 63 [.int s2, .int s1, .ref (a0 + 5)] := by
  unfold b_X2_shareLowest_63 at hf
  refine g_iast (pc := 63) cx (LNet_lowest h0) dX2_shareLowest_63 hf (fun M1 hf => ?_)
  refine g_aload_n (pc := 64) cx dX2_shareLowest_64 rfl 0 rfl ?_
  refine fg_X2_25 (pc := 65) cx dX2_shareLowest_65 h0 ?_
  refine g_aload_n (pc := 68) cx dX2_shareLowest_68 rfl 0 rfl ?_
  refine fg_X2_18 (pc := 69) cx dX2_shareLowest_69 h0 ?_
  refine g_iload_n (pc := 72) cx dX2_shareLowest_72 rfl 1 rfl ?_
  refine g_iald (pc := 73) cx (LNet_other h0) dX2_shareLowest_73 hf (fun hf => ?_)
  refine g_aload_n (pc := 74) cx dX2_shareLowest_74 rfl 0 rfl ?_
  refine fg_X2_25 (pc := 75) cx dX2_shareLowest_75 h0 ?_
  refine g_aload_n (pc := 78) cx dX2_shareLowest_78 rfl 0 rfl ?_
  refine fg_X2_15 (pc := 79) cx dX2_shareLowest_79 h0 ?_
  refine g_iload_n (pc := 82) cx dX2_shareLowest_82 rfl 1 rfl ?_
  refine g_iald (pc := 83) cx (LNet_one h0) dX2_shareLowest_83 hf (fun hf => ?_)
  refine g_iald (pc := 84) cx (LNet_lowest h0) dX2_shareLowest_84 hf (fun hf => ?_)
  refine g_iast (pc := 85) cx (LNet_lowest h0) dX2_shareLowest_85 hf (fun M2 hf => ?_)
  exact w_X2_shareLowest_86 cx en h0 hrc2 hf
set_option maxHeartbeats 4000000 in
set_option maxRecDepth 100000 in
theorem w_X2_shareLowest_2 {l : Launch} {w : Wp} {L : Ly} {E : Cx} {a0 : Nat} {R0 : Int32 × Mm} (cx : Ok w L E RX2 cX2_shareLowest 4 0) (en : En w L E none R0) (h0 : LNet w L (a0)) : ∀ (k : Nat) {M : Mm} {x1 : Int32}, l_X2_shareLowest_2 a0 k M x1 = some R0 → G l w L E M [(0, .ref a0), (1, .int x1)] 2 [] := by
  intro k
  induction k with
  | zero =>
    intro M x1 hf
    exact absurd hf (by simp [l_X2_shareLowest_2])
  | succ k ih =>
    intro M x1 hf
    unfold l_X2_shareLowest_2 at hf
    refine g_iload_n (pc := 2) cx dX2_shareLowest_2 rfl 1 rfl ?_
    refine g_aload_n (pc := 3) cx dX2_shareLowest_3 rfl 0 rfl ?_
    refine fg_X2_35 (pc := 4) cx dX2_shareLowest_4 h0 ?_
    refine g_icmp_ge (pc := 7) (tgt := 92) cx dX2_shareLowest_7 rfl hf (fun hf => ?_) (fun hf => ?_)
    · refine g_aload_n (pc := 10) cx dX2_shareLowest_10 rfl 0 rfl ?_
      refine fg_X2_21 (pc := 11) cx dX2_shareLowest_11 h0 ?_
      refine g_iload_n (pc := 14) cx dX2_shareLowest_14 rfl 1 rfl ?_
      refine g_zald (pc := 15) cx (LNet_closed h0) dX2_shareLowest_15 hf (fun hf => ?_)
      refine g_if_eq (pc := 16) (tgt := 86) cx dX2_shareLowest_16 rfl hf (fun hf => ?_) (fun hf => ?_)
      · exact w_X2_shareLowest_86 cx en h0 (fun _ _ hf => ih hf) hf
      · refine g_aload_n (pc := 19) cx dX2_shareLowest_19 rfl 0 rfl ?_
        refine fg_X2_25 (pc := 20) cx dX2_shareLowest_20 h0 ?_
        refine g_aload_n (pc := 23) cx dX2_shareLowest_23 rfl 0 rfl ?_
        refine fg_X2_15 (pc := 24) cx dX2_shareLowest_24 h0 ?_
        refine g_iload_n (pc := 27) cx dX2_shareLowest_27 rfl 1 rfl ?_
        refine g_iald (pc := 28) cx (LNet_one h0) dX2_shareLowest_28 hf (fun hf => ?_)
        refine g_iald (pc := 29) cx (LNet_lowest h0) dX2_shareLowest_29 hf (fun hf => ?_)
        refine g_nm hf (fun v1 hf => ?_)
        refine g_istore_n (pc := 30) cx [(2, .int v1), (0, .ref a0), (1, .int x1)] dX2_shareLowest_30 rfl (by decide) rfl ?_
        refine g_aload_n (pc := 31) cx dX2_shareLowest_31 rfl 1 rfl ?_
        refine fg_X2_25 (pc := 32) cx dX2_shareLowest_32 h0 ?_
        refine g_aload_n (pc := 35) cx dX2_shareLowest_35 rfl 1 rfl ?_
        refine fg_X2_18 (pc := 36) cx dX2_shareLowest_36 h0 ?_
        refine g_iload_n (pc := 39) cx dX2_shareLowest_39 rfl 2 rfl ?_
        refine g_iald (pc := 40) cx (LNet_other h0) dX2_shareLowest_40 hf (fun hf => ?_)
        refine g_iald (pc := 41) cx (LNet_lowest h0) dX2_shareLowest_41 hf (fun hf => ?_)
        refine g_nm hf (fun v2 hf => ?_)
        refine g_istore_n (pc := 42) cx [(3, .int v2), (2, .int v1), (0, .ref a0), (1, .int x1)] dX2_shareLowest_42 rfl (by decide) rfl ?_
        refine g_aload_n (pc := 43) cx dX2_shareLowest_43 rfl 2 rfl ?_
        refine fg_X2_25 (pc := 44) cx dX2_shareLowest_44 h0 ?_
        refine g_aload_n (pc := 47) cx dX2_shareLowest_47 rfl 2 rfl ?_
        refine fg_X2_15 (pc := 48) cx dX2_shareLowest_48 h0 ?_
        refine g_iload_n (pc := 51) cx dX2_shareLowest_51 rfl 3 rfl ?_
        refine g_iald (pc := 52) cx (LNet_one h0) dX2_shareLowest_52 hf (fun hf => ?_)
        refine g_iload_n (pc := 53) cx dX2_shareLowest_53 rfl 1 rfl ?_
        refine g_iload_n (pc := 54) cx dX2_shareLowest_54 rfl 0 rfl ?_
        refine g_icmp_ge (pc := 55) (tgt := 62) cx dX2_shareLowest_55 rfl hf (fun hf => ?_) (fun hf => ?_)
        · refine g_iload_n (pc := 58) cx dX2_shareLowest_58 rfl 1 rfl ?_
          refine g_goto (pc := 59) (tgt := 63) cx dX2_shareLowest_59 rfl ?_
          refine g_sub [2, 3] [(0, .ref a0), (1, .int x1)] rfl ?_
          exact w_X2_shareLowest_63 cx en h0 (fun _ _ hf => ih hf) hf
        · refine g_iload_n (pc := 62) cx dX2_shareLowest_62 rfl 0 rfl ?_
          refine g_sub [2, 3] [(0, .ref a0), (1, .int x1)] rfl ?_
          exact w_X2_shareLowest_63 cx en h0 (fun _ _ hf => ih hf) hf
    · exact g_vret (pc := 92) cx en dX2_shareLowest_92 hf
set_option maxHeartbeats 4000000 in
set_option maxRecDepth 100000 in
theorem c_X2_shareLowest {l : Launch} {w : Wp} {L : Ly} {a0 : Nat} {M : Mm} {R0 : Int32 × Mm} (h0 : LNet w L (a0)) (hf : f_X2_shareLowest a0 M = some R0) : CT l w L yX2_shareLowest cX2_shareLowest 4 none 0 [.ref a0] M R0 := by
  unfold f_X2_shareLowest at hf
  refine CT_of pn_X2 (Nat.le_of_ble_eq_true rfl) (fun E cx en => ?_)
  have cx : Ok w L E RX2 cX2_shareLowest 4 0 := cx
  show G l w L E M [(0, .ref a0)] 0 []
  refine g_iconst (pc := 0) (v := 0) cx dX2_shareLowest_0 (by decide) ?_
  refine g_istore_n (pc := 1) cx [(1, .int 0), (0, .ref a0)] dX2_shareLowest_1 rfl (by decide) rfl ?_
  refine g_sub [1, 0] [(0, .ref a0), (1, .int 0)] rfl ?_
  exact w_X2_shareLowest_2 cx en h0 FU hf
/-! X2_setIsolator -/
def l_X2_setIsolator_32 (a0 : Nat) : Nat → Mm → Int32 → OR
  | 0, _, _ => none
  | k + 1, M, x3 => if x3 < (M a0 0) then obn (f_X2_shareLowest a0 M) fun _ M1 => (l_X2_setIsolator_32 a0 k M1 (x3 + 1)) else obn (f_X2_feed a0 M) fun _ M4 => (some (0, M4))
def l_X2_setIsolator_9 (a0 : Nat) : Nat → Mm → Int32 → OR
  | 0, _, _ => none
  | k + 1, M, x3 => if x3 < (M a0 0) then ckd x3 10 (bnd (mst M (a0 + 5) (ix x3) x3) fun M1 => l_X2_setIsolator_9 a0 k M1 (x3 + 1)) else l_X2_setIsolator_32 a0 FU M 1
def f_X2_setIsolator (a0 : Nat) (M : Mm) (x1 : Int32) (x2 : Int32) : OR := ckd x1 16 (bnd (mst M (a0 + 4) (ix x1) x2) fun M1 => l_X2_setIsolator_9 a0 FU M1 0)
set_option maxHeartbeats 4000000 in
set_option maxRecDepth 100000 in
theorem w_X2_setIsolator_32 {l : Launch} {w : Wp} {L : Ly} {E : Cx} {a0 : Nat} {R0 : Int32 × Mm} (cx : Ok w L E RX2 cX2_setIsolator 4 1) (en : En w L E none R0) (h0 : LNet w L (a0)) : ∀ (k : Nat) {M : Mm} {x3 : Int32}, l_X2_setIsolator_32 a0 k M x3 = some R0 → G l w L E M [(0, .ref a0), (3, .int x3)] 32 [] := by
  intro k
  induction k with
  | zero =>
    intro M x3 hf
    exact absurd hf (by simp [l_X2_setIsolator_32])
  | succ k ih =>
    intro M x3 hf
    unfold l_X2_setIsolator_32 at hf
    refine g_iload_n (pc := 32) cx dX2_setIsolator_32 rfl 1 rfl ?_
    refine g_aload_n (pc := 33) cx dX2_setIsolator_33 rfl 0 rfl ?_
    refine fg_X2_31 (pc := 34) cx dX2_setIsolator_34 h0 ?_
    refine g_icmp_ge (pc := 37) (tgt := 50) cx dX2_setIsolator_37 rfl hf (fun hf => ?_) (fun hf => ?_)
    · refine g_aload_n (pc := 40) cx dX2_setIsolator_40 rfl 0 rfl ?_
      obtain ⟨q3, M1, hc2, hf⟩ := obn_some2 hf
      refine g_callVv (pc := 41) [] [] cx lk_X2_47 vw_X2 (LNet_o h0) (by decide) (c_X2_shareLowest h0 hc2) dX2_setIsolator_41 (Nat.le_of_ble_eq_true rfl) ?_
      refine g_iinc (pc := 44) cx [(3, .int (x3 + 1)), (0, .ref a0)] dX2_setIsolator_44 1 rfl rfl (by decide) rfl ?_
      refine g_goto (pc := 47) (tgt := 32) cx dX2_setIsolator_47 rfl ?_
      refine g_sub [1, 0] [(0, .ref a0), (3, .int (x3 + 1))] rfl ?_
      exact ih hf
    · refine g_aload_n (pc := 50) cx dX2_setIsolator_50 rfl 0 rfl ?_
      obtain ⟨q6, M4, hc5, hf⟩ := obn_some2 hf
      refine g_callVv (pc := 51) [] [] cx lk_X2_44 vw_X2 (LNet_o h0) (by decide) (c_X2_feed h0 hc5) dX2_setIsolator_51 (Nat.le_of_ble_eq_true rfl) ?_
      exact g_vret (pc := 54) cx en dX2_setIsolator_54 hf
set_option maxHeartbeats 4000000 in
set_option maxRecDepth 100000 in
theorem w_X2_setIsolator_9 {l : Launch} {w : Wp} {L : Ly} {E : Cx} {a0 : Nat} {R0 : Int32 × Mm} (cx : Ok w L E RX2 cX2_setIsolator 4 1) (en : En w L E none R0) (h0 : LNet w L (a0)) : ∀ (k : Nat) {M : Mm} {x3 : Int32}, l_X2_setIsolator_9 a0 k M x3 = some R0 → G l w L E M [(0, .ref a0), (3, .int x3)] 9 [] := by
  intro k
  induction k with
  | zero =>
    intro M x3 hf
    exact absurd hf (by simp [l_X2_setIsolator_9])
  | succ k ih =>
    intro M x3 hf
    unfold l_X2_setIsolator_9 at hf
    refine g_iload_n (pc := 9) cx dX2_setIsolator_9 rfl 1 rfl ?_
    refine g_aload_n (pc := 10) cx dX2_setIsolator_10 rfl 0 rfl ?_
    refine fg_X2_31 (pc := 11) cx dX2_setIsolator_11 h0 ?_
    refine g_icmp_ge (pc := 14) (tgt := 30) cx dX2_setIsolator_14 rfl hf (fun hf => ?_) (fun hf => ?_)
    · refine g_aload_n (pc := 17) cx dX2_setIsolator_17 rfl 0 rfl ?_
      refine fg_X2_25 (pc := 18) cx dX2_setIsolator_18 h0 ?_
      refine g_iload_n (pc := 21) cx dX2_setIsolator_21 rfl 1 rfl ?_
      refine g_iload_n (pc := 22) cx dX2_setIsolator_22 rfl 1 rfl ?_
      refine g_iast (pc := 23) cx (LNet_lowest h0) dX2_setIsolator_23 hf (fun M1 hf => ?_)
      refine g_iinc (pc := 24) cx [(3, .int (x3 + 1)), (0, .ref a0)] dX2_setIsolator_24 1 rfl rfl (by decide) rfl ?_
      refine g_goto (pc := 27) (tgt := 9) cx dX2_setIsolator_27 rfl ?_
      refine g_sub [1, 0] [(0, .ref a0), (3, .int (x3 + 1))] rfl ?_
      exact ih hf
    · refine g_iconst (pc := 30) (v := 1) cx dX2_setIsolator_30 (by decide) ?_
      refine g_istore_n (pc := 31) cx [(3, .int 1), (0, .ref a0)] dX2_setIsolator_31 rfl (by decide) rfl ?_
      refine g_sub [1, 0] [(0, .ref a0), (3, .int 1)] rfl ?_
      exact w_X2_setIsolator_32 cx en h0 FU hf
set_option maxHeartbeats 4000000 in
set_option maxRecDepth 100000 in
theorem c_X2_setIsolator {l : Launch} {w : Wp} {L : Ly} {a0 : Nat} {M : Mm} {x1 : Int32} {x2 : Int32} {R0 : Int32 × Mm} (h0 : LNet w L (a0)) (hf : f_X2_setIsolator a0 M x1 x2 = some R0) : CT l w L yX2_setIsolator cX2_setIsolator 4 none 1 [.ref a0, .int x1, .int x2] M R0 := by
  unfold f_X2_setIsolator at hf
  refine CT_of pn_X2 (Nat.le_of_ble_eq_true rfl) (fun E cx en => ?_)
  have cx : Ok w L E RX2 cX2_setIsolator 4 1 := cx
  show G l w L E M [(0, .ref a0), (1, .int x1), (2, .int x2)] 0 []
  refine g_aload_n (pc := 0) cx dX2_setIsolator_0 rfl 0 rfl ?_
  refine fg_X2_21 (pc := 1) cx dX2_setIsolator_1 h0 ?_
  refine g_iload_n (pc := 4) cx dX2_setIsolator_4 rfl 1 rfl ?_
  refine g_iload_n (pc := 5) cx dX2_setIsolator_5 rfl 2 rfl ?_
  refine g_zast (pc := 6) cx (LNet_closed h0) dX2_setIsolator_6 hf (fun M1 hf => ?_)
  refine g_iconst (pc := 7) (v := 0) cx dX2_setIsolator_7 (by decide) ?_
  refine g_istore_n (pc := 8) cx [(3, .int 0), (0, .ref a0), (1, .int x1), (2, .int x2)] dX2_setIsolator_8 rfl (by decide) rfl ?_
  refine g_sub [1, 0] [(0, .ref a0), (3, .int 0)] rfl ?_
  exact w_X2_setIsolator_9 cx en h0 FU hf
/-! X2_areTogether -/
def b_X2_areTogether_20 (a0 : Nat) (M : Mm) (s0 : Int32) : OR := zrk s0 (some (s0, M))
def f_X2_areTogether (a0 : Nat) (M : Mm) (x1 : Int32) (x2 : Int32) : OR := ckd x1 10 (ckd x2 10 (if (M (a0 + 5) (ix x1)) = (M (a0 + 5) (ix x2)) then b_X2_areTogether_20 a0 M 1 else b_X2_areTogether_20 a0 M 0))
set_option maxHeartbeats 4000000 in
set_option maxRecDepth 100000 in
theorem w_X2_areTogether_20 {l : Launch} {w : Wp} {L : Ly} {E : Cx} {a0 : Nat} {s0 : Int32} {R0 : Int32 × Mm} (cx : Ok w L E RX2 cX2_areTogether 3 0) (en : En w L E (some .boolean) R0) (h0 : LNet w L (a0)) {M : Mm} (hf : b_X2_areTogether_20 a0 M s0 = some R0) : G l w L E M [] 20 [.int s0] := by
  unfold b_X2_areTogether_20 at hf
  exact g_zret (pc := 20) cx en dX2_areTogether_20 hf
set_option maxHeartbeats 4000000 in
set_option maxRecDepth 100000 in
theorem c_X2_areTogether {l : Launch} {w : Wp} {L : Ly} {a0 : Nat} {M : Mm} {x1 : Int32} {x2 : Int32} {R0 : Int32 × Mm} (h0 : LNet w L (a0)) (hf : f_X2_areTogether a0 M x1 x2 = some R0) : CT l w L yX2_areTogether cX2_areTogether 3 (some .boolean) 0 [.ref a0, .int x1, .int x2] M R0 := by
  unfold f_X2_areTogether at hf
  refine CT_of pn_X2 (Nat.le_of_ble_eq_true rfl) (fun E cx en => ?_)
  have cx : Ok w L E RX2 cX2_areTogether 3 0 := cx
  show G l w L E M [(0, .ref a0), (1, .int x1), (2, .int x2)] 0 []
  refine g_aload_n (pc := 0) cx dX2_areTogether_0 rfl 0 rfl ?_
  refine fg_X2_25 (pc := 1) cx dX2_areTogether_1 h0 ?_
  refine g_iload_n (pc := 4) cx dX2_areTogether_4 rfl 1 rfl ?_
  refine g_iald (pc := 5) cx (LNet_lowest h0) dX2_areTogether_5 hf (fun hf => ?_)
  refine g_aload_n (pc := 6) cx dX2_areTogether_6 rfl 0 rfl ?_
  refine fg_X2_25 (pc := 7) cx dX2_areTogether_7 h0 ?_
  refine g_iload_n (pc := 10) cx dX2_areTogether_10 rfl 2 rfl ?_
  refine g_iald (pc := 11) cx (LNet_lowest h0) dX2_areTogether_11 hf (fun hf => ?_)
  refine g_icmp_ne (pc := 12) (tgt := 19) cx dX2_areTogether_12 rfl hf (fun hf => ?_) (fun hf => ?_)
  · refine g_iconst (pc := 15) (v := 1) cx dX2_areTogether_15 (by decide) ?_
    refine g_goto (pc := 16) (tgt := 20) cx dX2_areTogether_16 rfl ?_
    refine g_sub [] [] rfl ?_
    exact w_X2_areTogether_20 cx en h0 hf
  · refine g_iconst (pc := 19) (v := 0) cx dX2_areTogether_19 (by decide) ?_
    refine g_sub [] [] rfl ?_
    exact w_X2_areTogether_20 cx en h0 hf
/-! X2_groupSize -/
def b_X2_groupSize_24 (a0 : Nat) (rc4 : Mm → Int32 → Int32 → OR) (M : Mm) (x1 : Int32) (x2 : Int32) (x3 : Int32) : OR := rc4 M x2 (x3 + 1)
def l_X2_groupSize_4 (a0 : Nat) (x1 : Int32) : Nat → Mm → Int32 → Int32 → OR
  | 0, _, _, _ => none
  | k + 1, M, x2, x3 => if x3 < (M a0 0) then obn (f_X2_areTogether a0 M x3 x1) fun q3 M1 => (if q3 = 0 then b_X2_groupSize_24 a0 (l_X2_groupSize_4 a0 x1 k) M1 x1 x2 x3 else b_X2_groupSize_24 a0 (l_X2_groupSize_4 a0 x1 k) M1 x1 (x2 + 1) x3) else some (x2, M)
def f_X2_groupSize (a0 : Nat) (M : Mm) (x1 : Int32) : OR := l_X2_groupSize_4 a0 x1 FU M 0 0
set_option maxHeartbeats 4000000 in
set_option maxRecDepth 100000 in
theorem w_X2_groupSize_24 {l : Launch} {w : Wp} {L : Ly} {E : Cx} {a0 : Nat} {rc4 : Mm → Int32 → Int32 → OR} {x1 : Int32} {x2 : Int32} {x3 : Int32} {R0 : Int32 × Mm} (cx : Ok w L E RX2 cX2_groupSize 4 1) (en : En w L E (some .int) R0) (h0 : LNet w L (a0)) (hrc4 : ∀ (M : Mm) (x2 : Int32) (x3 : Int32), rc4 M x2 x3 = some R0 → G l w L E M [(0, .ref a0), (1, .int x1), (2, .int x2), (3, .int x3)] 4 []) {M : Mm} (hf : b_X2_groupSize_24 a0 rc4 M x1 x2 x3 = some R0) : G l w L E M [(0, .ref a0), (1, .int x1), (2, .int x2), (3, .int x3)] 24 [] := by
  unfold b_X2_groupSize_24 at hf
  refine g_iinc (pc := 24) cx [(3, .int (x3 + 1)), (0, .ref a0), (1, .int x1), (2, .int x2)] dX2_groupSize_24 3 rfl rfl (by decide) rfl ?_
  refine g_goto (pc := 27) (tgt := 4) cx dX2_groupSize_27 rfl ?_
  refine g_sub [1, 2, 3, 0] [(0, .ref a0), (1, .int x1), (2, .int x2), (3, .int (x3 + 1))] rfl ?_
  exact hrc4 _ _ _ hf
set_option maxHeartbeats 4000000 in
set_option maxRecDepth 100000 in
theorem w_X2_groupSize_4 {l : Launch} {w : Wp} {L : Ly} {E : Cx} {a0 : Nat} {x1 : Int32} {R0 : Int32 × Mm} (cx : Ok w L E RX2 cX2_groupSize 4 1) (en : En w L E (some .int) R0) (h0 : LNet w L (a0)) : ∀ (k : Nat) {M : Mm} {x2 : Int32} {x3 : Int32}, l_X2_groupSize_4 a0 x1 k M x2 x3 = some R0 → G l w L E M [(0, .ref a0), (1, .int x1), (2, .int x2), (3, .int x3)] 4 [] := by
  intro k
  induction k with
  | zero =>
    intro M x2 x3 hf
    exact absurd hf (by simp [l_X2_groupSize_4])
  | succ k ih =>
    intro M x2 x3 hf
    unfold l_X2_groupSize_4 at hf
    refine g_iload_n (pc := 4) cx dX2_groupSize_4 rfl 3 rfl ?_
    refine g_aload_n (pc := 5) cx dX2_groupSize_5 rfl 0 rfl ?_
    refine fg_X2_31 (pc := 6) cx dX2_groupSize_6 h0 ?_
    refine g_icmp_ge (pc := 9) (tgt := 30) cx dX2_groupSize_9 rfl hf (fun hf => ?_) (fun hf => ?_)
    · refine g_aload_n (pc := 12) cx dX2_groupSize_12 rfl 0 rfl ?_
      refine g_iload_n (pc := 13) cx dX2_groupSize_13 rfl 3 rfl ?_
      refine g_iload_n (pc := 14) cx dX2_groupSize_14 rfl 1 rfl ?_
      obtain ⟨q3, M1, hc2, hf⟩ := obn_some2 hf
      refine g_callVi (pc := 15) [.int x3, .int x1] [] cx lk_X2_50 vw_X2 (LNet_o h0) (by decide) (c_X2_areTogether h0 hc2) dX2_groupSize_15 (Nat.le_of_ble_eq_true rfl) ?_
      refine g_if_eq (pc := 18) (tgt := 24) cx dX2_groupSize_18 rfl hf (fun hf => ?_) (fun hf => ?_)
      · exact w_X2_groupSize_24 cx en h0 (fun _ _ _ hf => ih hf) hf
      · refine g_iinc (pc := 21) cx [(2, .int (x2 + 1)), (0, .ref a0), (1, .int x1), (3, .int x3)] dX2_groupSize_21 2 rfl rfl (by decide) rfl ?_
        refine g_sub [1, 2, 0, 3] [(0, .ref a0), (1, .int x1), (2, .int (x2 + 1)), (3, .int x3)] rfl ?_
        exact w_X2_groupSize_24 cx en h0 (fun _ _ _ hf => ih hf) hf
    · refine g_iload_n (pc := 30) cx dX2_groupSize_30 rfl 2 rfl ?_
      exact g_iret (pc := 31) cx en dX2_groupSize_31 rfl hf
set_option maxHeartbeats 4000000 in
set_option maxRecDepth 100000 in
theorem c_X2_groupSize {l : Launch} {w : Wp} {L : Ly} {a0 : Nat} {M : Mm} {x1 : Int32} {R0 : Int32 × Mm} (h0 : LNet w L (a0)) (hf : f_X2_groupSize a0 M x1 = some R0) : CT l w L yX2_groupSize cX2_groupSize 4 (some .int) 1 [.ref a0, .int x1] M R0 := by
  unfold f_X2_groupSize at hf
  refine CT_of pn_X2 (Nat.le_of_ble_eq_true rfl) (fun E cx en => ?_)
  have cx : Ok w L E RX2 cX2_groupSize 4 1 := cx
  show G l w L E M [(0, .ref a0), (1, .int x1)] 0 []
  refine g_iconst (pc := 0) (v := 0) cx dX2_groupSize_0 (by decide) ?_
  refine g_istore_n (pc := 1) cx [(2, .int 0), (0, .ref a0), (1, .int x1)] dX2_groupSize_1 rfl (by decide) rfl ?_
  refine g_iconst (pc := 2) (v := 0) cx dX2_groupSize_2 (by decide) ?_
  refine g_istore_n (pc := 3) cx [(3, .int 0), (2, .int 0), (0, .ref a0), (1, .int x1)] dX2_groupSize_3 rfl (by decide) rfl ?_
  refine g_sub [2, 3, 1, 0] [(0, .ref a0), (1, .int x1), (2, .int 0), (3, .int 0)] rfl ?_
  exact w_X2_groupSize_4 cx en h0 FU hf
/-! X2_groups -/
def b_X2_groups_25 (a0 : Nat) (rc4 : Mm → Int32 → Int32 → OR) (M : Mm) (x1 : Int32) (x2 : Int32) : OR := rc4 M x1 (x2 + 1)
def l_X2_groups_4 (a0 : Nat) : Nat → Mm → Int32 → Int32 → OR
  | 0, _, _, _ => none
  | k + 1, M, x1, x2 => if x2 < (M a0 0) then ckd x2 10 (if (M (a0 + 5) (ix x2)) = x2 then b_X2_groups_25 a0 (l_X2_groups_4 a0 k) M (x1 + 1) x2 else b_X2_groups_25 a0 (l_X2_groups_4 a0 k) M x1 x2) else some (x1, M)
def f_X2_groups (a0 : Nat) (M : Mm) : OR := l_X2_groups_4 a0 FU M 0 0
set_option maxHeartbeats 4000000 in
set_option maxRecDepth 100000 in
theorem w_X2_groups_25 {l : Launch} {w : Wp} {L : Ly} {E : Cx} {a0 : Nat} {rc4 : Mm → Int32 → Int32 → OR} {x1 : Int32} {x2 : Int32} {R0 : Int32 × Mm} (cx : Ok w L E RX2 cX2_groups 3 0) (en : En w L E (some .int) R0) (h0 : LNet w L (a0)) (hrc4 : ∀ (M : Mm) (x1 : Int32) (x2 : Int32), rc4 M x1 x2 = some R0 → G l w L E M [(0, .ref a0), (1, .int x1), (2, .int x2)] 4 []) {M : Mm} (hf : b_X2_groups_25 a0 rc4 M x1 x2 = some R0) : G l w L E M [(0, .ref a0), (1, .int x1), (2, .int x2)] 25 [] := by
  unfold b_X2_groups_25 at hf
  refine g_iinc (pc := 25) cx [(2, .int (x2 + 1)), (0, .ref a0), (1, .int x1)] dX2_groups_25 2 rfl rfl (by decide) rfl ?_
  refine g_goto (pc := 28) (tgt := 4) cx dX2_groups_28 rfl ?_
  refine g_sub [1, 2, 0] [(0, .ref a0), (1, .int x1), (2, .int (x2 + 1))] rfl ?_
  exact hrc4 _ _ _ hf
set_option maxHeartbeats 4000000 in
set_option maxRecDepth 100000 in
theorem w_X2_groups_4 {l : Launch} {w : Wp} {L : Ly} {E : Cx} {a0 : Nat} {R0 : Int32 × Mm} (cx : Ok w L E RX2 cX2_groups 3 0) (en : En w L E (some .int) R0) (h0 : LNet w L (a0)) : ∀ (k : Nat) {M : Mm} {x1 : Int32} {x2 : Int32}, l_X2_groups_4 a0 k M x1 x2 = some R0 → G l w L E M [(0, .ref a0), (1, .int x1), (2, .int x2)] 4 [] := by
  intro k
  induction k with
  | zero =>
    intro M x1 x2 hf
    exact absurd hf (by simp [l_X2_groups_4])
  | succ k ih =>
    intro M x1 x2 hf
    unfold l_X2_groups_4 at hf
    refine g_iload_n (pc := 4) cx dX2_groups_4 rfl 2 rfl ?_
    refine g_aload_n (pc := 5) cx dX2_groups_5 rfl 0 rfl ?_
    refine fg_X2_31 (pc := 6) cx dX2_groups_6 h0 ?_
    refine g_icmp_ge (pc := 9) (tgt := 31) cx dX2_groups_9 rfl hf (fun hf => ?_) (fun hf => ?_)
    · refine g_aload_n (pc := 12) cx dX2_groups_12 rfl 0 rfl ?_
      refine fg_X2_25 (pc := 13) cx dX2_groups_13 h0 ?_
      refine g_iload_n (pc := 16) cx dX2_groups_16 rfl 2 rfl ?_
      refine g_iald (pc := 17) cx (LNet_lowest h0) dX2_groups_17 hf (fun hf => ?_)
      refine g_iload_n (pc := 18) cx dX2_groups_18 rfl 2 rfl ?_
      refine g_icmp_ne (pc := 19) (tgt := 25) cx dX2_groups_19 rfl hf (fun hf => ?_) (fun hf => ?_)
      · refine g_iinc (pc := 22) cx [(1, .int (x1 + 1)), (0, .ref a0), (2, .int x2)] dX2_groups_22 1 rfl rfl (by decide) rfl ?_
        refine g_sub [1, 0, 2] [(0, .ref a0), (1, .int (x1 + 1)), (2, .int x2)] rfl ?_
        exact w_X2_groups_25 cx en h0 (fun _ _ _ hf => ih hf) hf
      · exact w_X2_groups_25 cx en h0 (fun _ _ _ hf => ih hf) hf
    · refine g_iload_n (pc := 31) cx dX2_groups_31 rfl 1 rfl ?_
      exact g_iret (pc := 32) cx en dX2_groups_32 rfl hf
set_option maxHeartbeats 4000000 in
set_option maxRecDepth 100000 in
theorem c_X2_groups {l : Launch} {w : Wp} {L : Ly} {a0 : Nat} {M : Mm} {R0 : Int32 × Mm} (h0 : LNet w L (a0)) (hf : f_X2_groups a0 M = some R0) : CT l w L yX2_groups cX2_groups 3 (some .int) 0 [.ref a0] M R0 := by
  unfold f_X2_groups at hf
  refine CT_of pn_X2 (Nat.le_of_ble_eq_true rfl) (fun E cx en => ?_)
  have cx : Ok w L E RX2 cX2_groups 3 0 := cx
  show G l w L E M [(0, .ref a0)] 0 []
  refine g_iconst (pc := 0) (v := 0) cx dX2_groups_0 (by decide) ?_
  refine g_istore_n (pc := 1) cx [(1, .int 0), (0, .ref a0)] dX2_groups_1 rfl (by decide) rfl ?_
  refine g_iconst (pc := 2) (v := 0) cx dX2_groups_2 (by decide) ?_
  refine g_istore_n (pc := 3) cx [(2, .int 0), (1, .int 0), (0, .ref a0)] dX2_groups_3 rfl (by decide) rfl ?_
  refine g_sub [2, 1, 0] [(0, .ref a0), (1, .int 0), (2, .int 0)] rfl ?_
  exact w_X2_groups_4 cx en h0 FU hf
/-! X2_isClosedAt -/
def b_X2_isClosedAt_34 (a0 : Nat) (M : Mm) (s0 : Int32) : OR := zrk s0 (some (s0, M))
def b_X2_isClosedAt_33 (a0 : Nat) (M : Mm) : OR := b_X2_isClosedAt_34 a0 M 0
def b_X2_isClosedAt_29 (a0 : Nat) (M : Mm) : OR := b_X2_isClosedAt_34 a0 M 1
def f_X2_isClosedAt (a0 : Nat) (M : Mm) (x1 : Int32) (x2 : Int32) : OR := ckd x1 16 (if (zb (M (a0 + 4) (ix x1))) = 0 then b_X2_isClosedAt_33 a0 M else ckd x1 16 (if (M (a0 + 2) (ix x1)) = x2 then b_X2_isClosedAt_29 a0 M else ckd x1 16 (if (M (a0 + 3) (ix x1)) = x2 then b_X2_isClosedAt_29 a0 M else b_X2_isClosedAt_33 a0 M)))
set_option maxHeartbeats 4000000 in
set_option maxRecDepth 100000 in
theorem w_X2_isClosedAt_34 {l : Launch} {w : Wp} {L : Ly} {E : Cx} {a0 : Nat} {s0 : Int32} {R0 : Int32 × Mm} (cx : Ok w L E RX2 cX2_isClosedAt 3 0) (en : En w L E (some .boolean) R0) (h0 : LNet w L (a0)) {M : Mm} (hf : b_X2_isClosedAt_34 a0 M s0 = some R0) : G l w L E M [] 34 [.int s0] := by
  unfold b_X2_isClosedAt_34 at hf
  exact g_zret (pc := 34) cx en dX2_isClosedAt_34 hf
set_option maxHeartbeats 4000000 in
set_option maxRecDepth 100000 in
theorem w_X2_isClosedAt_33 {l : Launch} {w : Wp} {L : Ly} {E : Cx} {a0 : Nat} {R0 : Int32 × Mm} (cx : Ok w L E RX2 cX2_isClosedAt 3 0) (en : En w L E (some .boolean) R0) (h0 : LNet w L (a0)) {M : Mm} (hf : b_X2_isClosedAt_33 a0 M = some R0) : G l w L E M [] 33 [] := by
  unfold b_X2_isClosedAt_33 at hf
  refine g_iconst (pc := 33) (v := 0) cx dX2_isClosedAt_33 (by decide) ?_
  exact w_X2_isClosedAt_34 cx en h0 hf
set_option maxHeartbeats 4000000 in
set_option maxRecDepth 100000 in
theorem w_X2_isClosedAt_29 {l : Launch} {w : Wp} {L : Ly} {E : Cx} {a0 : Nat} {R0 : Int32 × Mm} (cx : Ok w L E RX2 cX2_isClosedAt 3 0) (en : En w L E (some .boolean) R0) (h0 : LNet w L (a0)) {M : Mm} (hf : b_X2_isClosedAt_29 a0 M = some R0) : G l w L E M [] 29 [] := by
  unfold b_X2_isClosedAt_29 at hf
  refine g_iconst (pc := 29) (v := 1) cx dX2_isClosedAt_29 (by decide) ?_
  refine g_goto (pc := 30) (tgt := 34) cx dX2_isClosedAt_30 rfl ?_
  exact w_X2_isClosedAt_34 cx en h0 hf
set_option maxHeartbeats 4000000 in
set_option maxRecDepth 100000 in
theorem c_X2_isClosedAt {l : Launch} {w : Wp} {L : Ly} {a0 : Nat} {M : Mm} {x1 : Int32} {x2 : Int32} {R0 : Int32 × Mm} (h0 : LNet w L (a0)) (hf : f_X2_isClosedAt a0 M x1 x2 = some R0) : CT l w L yX2_isClosedAt cX2_isClosedAt 3 (some .boolean) 0 [.ref a0, .int x1, .int x2] M R0 := by
  unfold f_X2_isClosedAt at hf
  refine CT_of pn_X2 (Nat.le_of_ble_eq_true rfl) (fun E cx en => ?_)
  have cx : Ok w L E RX2 cX2_isClosedAt 3 0 := cx
  show G l w L E M [(0, .ref a0), (1, .int x1), (2, .int x2)] 0 []
  refine g_aload_n (pc := 0) cx dX2_isClosedAt_0 rfl 0 rfl ?_
  refine fg_X2_21 (pc := 1) cx dX2_isClosedAt_1 h0 ?_
  refine g_iload_n (pc := 4) cx dX2_isClosedAt_4 rfl 1 rfl ?_
  refine g_zald (pc := 5) cx (LNet_closed h0) dX2_isClosedAt_5 hf (fun hf => ?_)
  refine g_if_eq (pc := 6) (tgt := 33) cx dX2_isClosedAt_6 rfl hf (fun hf => ?_) (fun hf => ?_)
  · refine g_sub [] [] rfl ?_
    exact w_X2_isClosedAt_33 cx en h0 hf
  · refine g_aload_n (pc := 9) cx dX2_isClosedAt_9 rfl 0 rfl ?_
    refine fg_X2_15 (pc := 10) cx dX2_isClosedAt_10 h0 ?_
    refine g_iload_n (pc := 13) cx dX2_isClosedAt_13 rfl 1 rfl ?_
    refine g_iald (pc := 14) cx (LNet_one h0) dX2_isClosedAt_14 hf (fun hf => ?_)
    refine g_iload_n (pc := 15) cx dX2_isClosedAt_15 rfl 2 rfl ?_
    refine g_icmp_eq (pc := 16) (tgt := 29) cx dX2_isClosedAt_16 rfl hf (fun hf => ?_) (fun hf => ?_)
    · refine g_sub [] [] rfl ?_
      exact w_X2_isClosedAt_29 cx en h0 hf
    · refine g_aload_n (pc := 19) cx dX2_isClosedAt_19 rfl 0 rfl ?_
      refine fg_X2_18 (pc := 20) cx dX2_isClosedAt_20 h0 ?_
      refine g_iload_n (pc := 23) cx dX2_isClosedAt_23 rfl 1 rfl ?_
      refine g_iald (pc := 24) cx (LNet_other h0) dX2_isClosedAt_24 hf (fun hf => ?_)
      refine g_iload_n (pc := 25) cx dX2_isClosedAt_25 rfl 2 rfl ?_
      refine g_icmp_ne (pc := 26) (tgt := 33) cx dX2_isClosedAt_26 rfl hf (fun hf => ?_) (fun hf => ?_)
      · refine g_sub [] [] rfl ?_
        exact w_X2_isClosedAt_29 cx en h0 hf
      · refine g_sub [] [] rfl ?_
        exact w_X2_isClosedAt_33 cx en h0 hf
/-! X2_closedAt -/
def b_X2_closedAt_24 (a0 : Nat) (rc4 : Mm → Int32 → Int32 → OR) (M : Mm) (x1 : Int32) (x2 : Int32) (x3 : Int32) : OR := rc4 M x2 (x3 + 1)
def l_X2_closedAt_4 (a0 : Nat) (x1 : Int32) : Nat → Mm → Int32 → Int32 → OR
  | 0, _, _, _ => none
  | k + 1, M, x2, x3 => if x3 < (M a0 1) then obn (f_X2_isClosedAt a0 M x3 x1) fun q3 M1 => (if q3 = 0 then b_X2_closedAt_24 a0 (l_X2_closedAt_4 a0 x1 k) M1 x1 x2 x3 else b_X2_closedAt_24 a0 (l_X2_closedAt_4 a0 x1 k) M1 x1 (x2 + 1) x3) else some (x2, M)
def f_X2_closedAt (a0 : Nat) (M : Mm) (x1 : Int32) : OR := l_X2_closedAt_4 a0 x1 FU M 0 0
set_option maxHeartbeats 4000000 in
set_option maxRecDepth 100000 in
theorem w_X2_closedAt_24 {l : Launch} {w : Wp} {L : Ly} {E : Cx} {a0 : Nat} {rc4 : Mm → Int32 → Int32 → OR} {x1 : Int32} {x2 : Int32} {x3 : Int32} {R0 : Int32 × Mm} (cx : Ok w L E RX2 cX2_closedAt 4 1) (en : En w L E (some .int) R0) (h0 : LNet w L (a0)) (hrc4 : ∀ (M : Mm) (x2 : Int32) (x3 : Int32), rc4 M x2 x3 = some R0 → G l w L E M [(0, .ref a0), (1, .int x1), (2, .int x2), (3, .int x3)] 4 []) {M : Mm} (hf : b_X2_closedAt_24 a0 rc4 M x1 x2 x3 = some R0) : G l w L E M [(0, .ref a0), (1, .int x1), (2, .int x2), (3, .int x3)] 24 [] := by
  unfold b_X2_closedAt_24 at hf
  refine g_iinc (pc := 24) cx [(3, .int (x3 + 1)), (0, .ref a0), (1, .int x1), (2, .int x2)] dX2_closedAt_24 3 rfl rfl (by decide) rfl ?_
  refine g_goto (pc := 27) (tgt := 4) cx dX2_closedAt_27 rfl ?_
  refine g_sub [1, 2, 3, 0] [(0, .ref a0), (1, .int x1), (2, .int x2), (3, .int (x3 + 1))] rfl ?_
  exact hrc4 _ _ _ hf
set_option maxHeartbeats 4000000 in
set_option maxRecDepth 100000 in
theorem w_X2_closedAt_4 {l : Launch} {w : Wp} {L : Ly} {E : Cx} {a0 : Nat} {x1 : Int32} {R0 : Int32 × Mm} (cx : Ok w L E RX2 cX2_closedAt 4 1) (en : En w L E (some .int) R0) (h0 : LNet w L (a0)) : ∀ (k : Nat) {M : Mm} {x2 : Int32} {x3 : Int32}, l_X2_closedAt_4 a0 x1 k M x2 x3 = some R0 → G l w L E M [(0, .ref a0), (1, .int x1), (2, .int x2), (3, .int x3)] 4 [] := by
  intro k
  induction k with
  | zero =>
    intro M x2 x3 hf
    exact absurd hf (by simp [l_X2_closedAt_4])
  | succ k ih =>
    intro M x2 x3 hf
    unfold l_X2_closedAt_4 at hf
    refine g_iload_n (pc := 4) cx dX2_closedAt_4 rfl 3 rfl ?_
    refine g_aload_n (pc := 5) cx dX2_closedAt_5 rfl 0 rfl ?_
    refine fg_X2_35 (pc := 6) cx dX2_closedAt_6 h0 ?_
    refine g_icmp_ge (pc := 9) (tgt := 30) cx dX2_closedAt_9 rfl hf (fun hf => ?_) (fun hf => ?_)
    · refine g_aload_n (pc := 12) cx dX2_closedAt_12 rfl 0 rfl ?_
      refine g_iload_n (pc := 13) cx dX2_closedAt_13 rfl 3 rfl ?_
      refine g_iload_n (pc := 14) cx dX2_closedAt_14 rfl 1 rfl ?_
      obtain ⟨q3, M1, hc2, hf⟩ := obn_some2 hf
      refine g_callVi (pc := 15) [.int x3, .int x1] [] cx lk_X2_54 vw_X2 (LNet_o h0) (by decide) (c_X2_isClosedAt h0 hc2) dX2_closedAt_15 (Nat.le_of_ble_eq_true rfl) ?_
      refine g_if_eq (pc := 18) (tgt := 24) cx dX2_closedAt_18 rfl hf (fun hf => ?_) (fun hf => ?_)
      · exact w_X2_closedAt_24 cx en h0 (fun _ _ _ hf => ih hf) hf
      · refine g_iinc (pc := 21) cx [(2, .int (x2 + 1)), (0, .ref a0), (1, .int x1), (3, .int x3)] dX2_closedAt_21 2 rfl rfl (by decide) rfl ?_
        refine g_sub [1, 2, 0, 3] [(0, .ref a0), (1, .int x1), (2, .int (x2 + 1)), (3, .int x3)] rfl ?_
        exact w_X2_closedAt_24 cx en h0 (fun _ _ _ hf => ih hf) hf
    · refine g_iload_n (pc := 30) cx dX2_closedAt_30 rfl 2 rfl ?_
      exact g_iret (pc := 31) cx en dX2_closedAt_31 rfl hf
set_option maxHeartbeats 4000000 in
set_option maxRecDepth 100000 in
theorem c_X2_closedAt {l : Launch} {w : Wp} {L : Ly} {a0 : Nat} {M : Mm} {x1 : Int32} {R0 : Int32 × Mm} (h0 : LNet w L (a0)) (hf : f_X2_closedAt a0 M x1 = some R0) : CT l w L yX2_closedAt cX2_closedAt 4 (some .int) 1 [.ref a0, .int x1] M R0 := by
  unfold f_X2_closedAt at hf
  refine CT_of pn_X2 (Nat.le_of_ble_eq_true rfl) (fun E cx en => ?_)
  have cx : Ok w L E RX2 cX2_closedAt 4 1 := cx
  show G l w L E M [(0, .ref a0), (1, .int x1)] 0 []
  refine g_iconst (pc := 0) (v := 0) cx dX2_closedAt_0 (by decide) ?_
  refine g_istore_n (pc := 1) cx [(2, .int 0), (0, .ref a0), (1, .int x1)] dX2_closedAt_1 rfl (by decide) rfl ?_
  refine g_iconst (pc := 2) (v := 0) cx dX2_closedAt_2 (by decide) ?_
  refine g_istore_n (pc := 3) cx [(3, .int 0), (2, .int 0), (0, .ref a0), (1, .int x1)] dX2_closedAt_3 rfl (by decide) rfl ?_
  refine g_sub [2, 3, 1, 0] [(0, .ref a0), (1, .int x1), (2, .int 0), (3, .int 0)] rfl ?_
  exact w_X2_closedAt_4 cx en h0 FU hf
/-! X1_copyFrom -/
def f_X1_copyFrom (a0 a1 : Nat) (M : Mm) : OR := bnd (mst M a0 0 (M a1 0)) fun M1 => bnd (mst M1 a0 1 (M1 a1 1)) fun M2 => cpk 0 0 24 24 24 (bnd (mrow M2 (a0 + 1) (va_cpy (M2 (a1 + 1)) (M2 (a0 + 1)) (ix 0) (ix 0) (ix 24))) fun M3 => cpk 0 0 24 24 24 (bnd (mrow M3 (a0 + 2) (va_cpy (M3 (a1 + 2)) (M3 (a0 + 2)) (ix 0) (ix 0) (ix 24))) fun M4 => cpk 0 0 24 24 24 (bnd (mrow M4 (a0 + 3) (va_cpy (M4 (a1 + 3)) (M4 (a0 + 3)) (ix 0) (ix 0) (ix 24))) fun M5 => cpk 0 0 10 10 10 (bnd (mrow M5 (a0 + 4) (va_cpy (M5 (a1 + 4)) (M5 (a0 + 4)) (ix 0) (ix 0) (ix 10))) fun M6 => cpk 0 0 16 16 16 (bnd (mrow M6 (a0 + 5) (va_cpy (M6 (a1 + 5)) (M6 (a0 + 5)) (ix 0) (ix 0) (ix 16))) fun M7 => some (0, M7))))))
set_option maxHeartbeats 4000000 in
set_option maxRecDepth 100000 in
theorem c_X1_copyFrom {l : Launch} {w : Wp} {L : Ly} {a0 a1 : Nat} {M : Mm} {R0 : Int32 × Mm} (h0 : LLog w L (a0)) (h1 : LLog w L (a1)) (hf : f_X1_copyFrom a0 a1 M = some R0) : CT l w L yX1_copyFrom cX1_copyFrom 2 none 1 [.ref a0, .ref a1] M R0 := by
  unfold f_X1_copyFrom at hf
  refine CT_of pn_X1 (Nat.le_of_ble_eq_true rfl) (fun E cx en => ?_)
  have cx : Ok w L E RX1 cX1_copyFrom 2 1 := cx
  show G l w L E M [(0, .ref a0), (1, .ref a1)] 0 []
  refine g_aload_n (pc := 0) cx dX1_copyFrom_0 rfl 0 rfl ?_
  refine g_aload_n (pc := 1) cx dX1_copyFrom_1 rfl 1 rfl ?_
  refine fg_X1_34 (pc := 2) cx dX1_copyFrom_2 h1 ?_
  refine fp_X1_34 (pc := 5) cx dX1_copyFrom_5 h0 hf (fun M1 hf => ?_)
  refine g_aload_n (pc := 8) cx dX1_copyFrom_8 rfl 0 rfl ?_
  refine g_aload_n (pc := 9) cx dX1_copyFrom_9 rfl 1 rfl ?_
  refine fg_X1_38 (pc := 10) cx dX1_copyFrom_10 h1 ?_
  refine fp_X1_38 (pc := 13) cx dX1_copyFrom_13 h0 hf (fun M2 hf => ?_)
  refine g_aload_n (pc := 16) cx dX1_copyFrom_16 rfl 1 rfl ?_
  refine fg_X1_9 (pc := 17) cx dX1_copyFrom_17 h1 ?_
  refine g_iconst (pc := 20) (v := 0) cx dX1_copyFrom_20 (by decide) ?_
  refine g_aload_n (pc := 21) cx dX1_copyFrom_21 rfl 0 rfl ?_
  refine fg_X1_9 (pc := 22) cx dX1_copyFrom_22 h0 ?_
  refine g_iconst (pc := 25) (v := 0) cx dX1_copyFrom_25 (by decide) ?_
  refine g_bipush (pc := 26) (v := 24) cx dX1_copyFrom_26 (by decide) ?_
  refine g_cpyI (pc := 28) cx (by decide) tm_X1_41 (LLog_kinds h1) (LLog_kinds h0) dX1_copyFrom_28 hf (Nat.le_of_ble_eq_true rfl) (fun M3 hf => ?_)
  refine g_aload_n (pc := 31) cx dX1_copyFrom_31 rfl 1 rfl ?_
  refine fg_X1_15 (pc := 32) cx dX1_copyFrom_32 h1 ?_
  refine g_iconst (pc := 35) (v := 0) cx dX1_copyFrom_35 (by decide) ?_
  refine g_aload_n (pc := 36) cx dX1_copyFrom_36 rfl 0 rfl ?_
  refine fg_X1_15 (pc := 37) cx dX1_copyFrom_37 h0 ?_
  refine g_iconst (pc := 40) (v := 0) cx dX1_copyFrom_40 (by decide) ?_
  refine g_bipush (pc := 41) (v := 24) cx dX1_copyFrom_41 (by decide) ?_
  refine g_cpyI (pc := 43) cx (by decide) tm_X1_41 (LLog_places h1) (LLog_places h0) dX1_copyFrom_43 hf (Nat.le_of_ble_eq_true rfl) (fun M4 hf => ?_)
  refine g_aload_n (pc := 46) cx dX1_copyFrom_46 rfl 1 rfl ?_
  refine fg_X1_18 (pc := 47) cx dX1_copyFrom_47 h1 ?_
  refine g_iconst (pc := 50) (v := 0) cx dX1_copyFrom_50 (by decide) ?_
  refine g_aload_n (pc := 51) cx dX1_copyFrom_51 rfl 0 rfl ?_
  refine fg_X1_18 (pc := 52) cx dX1_copyFrom_52 h0 ?_
  refine g_iconst (pc := 55) (v := 0) cx dX1_copyFrom_55 (by decide) ?_
  refine g_bipush (pc := 56) (v := 24) cx dX1_copyFrom_56 (by decide) ?_
  refine g_cpyI (pc := 58) cx (by decide) tm_X1_41 (LLog_times h1) (LLog_times h0) dX1_copyFrom_58 hf (Nat.le_of_ble_eq_true rfl) (fun M5 hf => ?_)
  refine g_aload_n (pc := 61) cx dX1_copyFrom_61 rfl 1 rfl ?_
  refine fg_X1_21 (pc := 62) cx dX1_copyFrom_62 h1 ?_
  refine g_iconst (pc := 65) (v := 0) cx dX1_copyFrom_65 (by decide) ?_
  refine g_aload_n (pc := 66) cx dX1_copyFrom_66 rfl 0 rfl ?_
  refine fg_X1_21 (pc := 67) cx dX1_copyFrom_67 h0 ?_
  refine g_iconst (pc := 70) (v := 0) cx dX1_copyFrom_70 (by decide) ?_
  refine g_bipush (pc := 71) (v := 10) cx dX1_copyFrom_71 (by decide) ?_
  refine g_cpyI (pc := 73) cx (by decide) tm_X1_41 (LLog_feederAhead h1) (LLog_feederAhead h0) dX1_copyFrom_73 hf (Nat.le_of_ble_eq_true rfl) (fun M6 hf => ?_)
  refine g_aload_n (pc := 76) cx dX1_copyFrom_76 rfl 1 rfl ?_
  refine fg_X1_24 (pc := 77) cx dX1_copyFrom_77 h1 ?_
  refine g_iconst (pc := 80) (v := 0) cx dX1_copyFrom_80 (by decide) ?_
  refine g_aload_n (pc := 81) cx dX1_copyFrom_81 rfl 0 rfl ?_
  refine fg_X1_24 (pc := 82) cx dX1_copyFrom_82 h0 ?_
  refine g_iconst (pc := 85) (v := 0) cx dX1_copyFrom_85 (by decide) ?_
  refine g_bipush (pc := 86) (v := 16) cx dX1_copyFrom_86 (by decide) ?_
  refine g_cpyZ (pc := 88) cx (by decide) tm_X1_41 (LLog_closedAhead h1) (LLog_closedAhead h0) dX1_copyFrom_88 hf (Nat.le_of_ble_eq_true rfl) (fun M7 hf => ?_)
  exact g_vret (pc := 91) cx en dX1_copyFrom_91 hf
/-! X1_setBy -/
def b_X1_setBy_76 (a0 a1 a2 : Nat) (M : Mm) : OR := some (0, M)
def f_X1_setBy (a0 a1 a2 : Nat) (M : Mm) (x1 : Int32) : OR := ckd x1 24 (bnd (M (a0 + 2) (ix x1)) fun v1 => ckd x1 24 (bnd (M (a0 + 1) (ix x1)) fun v2 => if v2 = 2 then ckd v1 16 (bnd (mst M a2 (ix v1) 0) fun M3 => b_X1_setBy_76 a0 a1 a2 M3) else if v2 = 3 then ckd v1 16 (bnd (mst M a2 (ix v1) 1) fun M4 => b_X1_setBy_76 a0 a1 a2 M4) else if v2 = 4 then ckd v1 10 (bnd (mst M a1 (ix v1) 1) fun M5 => b_X1_setBy_76 a0 a1 a2 M5) else if v2 = 5 then ckd v1 10 (bnd (mst M a1 (ix v1) 2) fun M6 => b_X1_setBy_76 a0 a1 a2 M6) else b_X1_setBy_76 a0 a1 a2 M))
set_option maxHeartbeats 4000000 in
set_option maxRecDepth 100000 in
theorem w_X1_setBy_76 {l : Launch} {w : Wp} {L : Ly} {E : Cx} {a0 a1 a2 : Nat} {R0 : Int32 × Mm} (cx : Ok w L E RX1 cX1_setBy 5 0) (en : En w L E none R0) (h0 : LLog w L (a0)) (h1 : L (a1) = some (gI w 10)) (h2 : L (a2) = some (gZ w 16)) {M : Mm} (hf : b_X1_setBy_76 a0 a1 a2 M = some R0) : G l w L E M [] 76 [] := by
  unfold b_X1_setBy_76 at hf
  exact g_vret (pc := 76) cx en dX1_setBy_76 hf
set_option maxHeartbeats 4000000 in
set_option maxRecDepth 100000 in
theorem c_X1_setBy {l : Launch} {w : Wp} {L : Ly} {a0 a1 a2 : Nat} {M : Mm} {x1 : Int32} {R0 : Int32 × Mm} (h0 : LLog w L (a0)) (h1 : L (a1) = some (gI w 10)) (h2 : L (a2) = some (gZ w 16)) (hf : f_X1_setBy a0 a1 a2 M x1 = some R0) : CT l w L yX1_setBy cX1_setBy 5 none 0 [.ref a0, .int x1, .ref a1, .ref a2] M R0 := by
  unfold f_X1_setBy at hf
  refine CT_of pn_X1 (Nat.le_of_ble_eq_true rfl) (fun E cx en => ?_)
  have cx : Ok w L E RX1 cX1_setBy 5 0 := cx
  show G l w L E M [(0, .ref a0), (1, .int x1), (2, .ref a1), (3, .ref a2)] 0 []
  refine g_aload_n (pc := 0) cx dX1_setBy_0 rfl 0 rfl ?_
  refine fg_X1_15 (pc := 1) cx dX1_setBy_1 h0 ?_
  refine g_iload_n (pc := 4) cx dX1_setBy_4 rfl 1 rfl ?_
  refine g_iald (pc := 5) cx (LLog_places h0) dX1_setBy_5 hf (fun hf => ?_)
  refine g_nm hf (fun v1 hf => ?_)
  refine g_istore (pc := 6) cx [(4, .int v1), (0, .ref a0), (1, .int x1), (2, .ref a1), (3, .ref a2)] dX1_setBy_6 (by decide) rfl ?_
  refine g_aload_n (pc := 8) cx dX1_setBy_8 rfl 1 rfl ?_
  refine fg_X1_9 (pc := 9) cx dX1_setBy_9 h0 ?_
  refine g_iload_n (pc := 12) cx dX1_setBy_12 rfl 2 rfl ?_
  refine g_iald (pc := 13) cx (LLog_kinds h0) dX1_setBy_13 hf (fun hf => ?_)
  refine g_nm hf (fun v2 hf => ?_)
  refine g_swk (pc := 14) (kx := 2) (off := 30) (tgt := 44) cx dX1_setBy_14 (by decide) (by decide) (by decide) (by decide) hf (fun hf => ?_) (fun n0 hf => ?_)
  · refine g_aload_n (pc := 44) cx dX1_setBy_44 rfl 4 rfl ?_
    refine g_iload (pc := 45) cx dX1_setBy_45 0 rfl ?_
    refine g_iconst (pc := 47) (v := 0) cx dX1_setBy_47 (by decide) ?_
    refine g_zast (pc := 48) cx h2 dX1_setBy_48 hf (fun M3 hf => ?_)
    refine g_goto (pc := 49) (tgt := 76) cx dX1_setBy_49 rfl ?_
    refine g_sub [] [] rfl ?_
    exact w_X1_setBy_76 cx en h0 h1 h2 hf
  refine g_swk (pc := 14) (kx := 3) (off := 38) (tgt := 52) cx dX1_setBy_14 (by decide) (by decide) (by decide) (by decide) hf (fun hf => ?_) (fun n1 hf => ?_)
  · refine g_aload_n (pc := 52) cx dX1_setBy_52 rfl 4 rfl ?_
    refine g_iload (pc := 53) cx dX1_setBy_53 0 rfl ?_
    refine g_iconst (pc := 55) (v := 1) cx dX1_setBy_55 (by decide) ?_
    refine g_zast (pc := 56) cx h2 dX1_setBy_56 hf (fun M4 hf => ?_)
    refine g_goto (pc := 57) (tgt := 76) cx dX1_setBy_57 rfl ?_
    refine g_sub [] [] rfl ?_
    exact w_X1_setBy_76 cx en h0 h1 h2 hf
  refine g_swk (pc := 14) (kx := 4) (off := 46) (tgt := 60) cx dX1_setBy_14 (by decide) (by decide) (by decide) (by decide) hf (fun hf => ?_) (fun n2 hf => ?_)
  · refine g_aload_n (pc := 60) cx dX1_setBy_60 rfl 3 rfl ?_
    refine g_iload (pc := 61) cx dX1_setBy_61 0 rfl ?_
    refine g_iconst (pc := 63) (v := 1) cx dX1_setBy_63 (by decide) ?_
    refine g_iast (pc := 64) cx h1 dX1_setBy_64 hf (fun M5 hf => ?_)
    refine g_goto (pc := 65) (tgt := 76) cx dX1_setBy_65 rfl ?_
    refine g_sub [] [] rfl ?_
    exact w_X1_setBy_76 cx en h0 h1 h2 hf
  refine g_swk (pc := 14) (kx := 5) (off := 54) (tgt := 68) cx dX1_setBy_14 (by decide) (by decide) (by decide) (by decide) hf (fun hf => ?_) (fun n3 hf => ?_)
  · refine g_aload_n (pc := 68) cx dX1_setBy_68 rfl 3 rfl ?_
    refine g_iload (pc := 69) cx dX1_setBy_69 0 rfl ?_
    refine g_iconst (pc := 71) (v := 2) cx dX1_setBy_71 (by decide) ?_
    refine g_iast (pc := 72) cx h1 dX1_setBy_72 hf (fun M6 hf => ?_)
    refine g_goto (pc := 73) (tgt := 76) cx dX1_setBy_73 rfl ?_
    refine g_sub [] [] rfl ?_
    exact w_X1_setBy_76 cx en h0 h1 h2 hf
  refine g_swo (pc := 14) (tgt := 76) cx dX1_setBy_14 ?_ (by decide) ?_
  · have q0 := lv_neT n0 (a := 2) (by decide)
    have q1 := lv_neT n1 (a := 3) (by decide)
    have q2 := lv_neT n2 (a := 4) (by decide)
    have q3 := lv_neT n3 (a := 5) (by decide)
    omega
  · refine g_sub [] [] rfl ?_
    exact w_X1_setBy_76 cx en h0 h1 h2 hf
/-! X1_dropOldest -/
def f_X1_dropOldest (a0 : Nat) (M : Mm) : OR := obn (f_X1_setBy a0 (a0 + 4) (a0 + 5) M 0) fun _ M1 => (bnd (mst M1 a0 1 23) fun M4 => cpk 1 0 (M4 a0 1) 24 24 (bnd (mrow M4 (a0 + 1) (va_cpy (M4 (a0 + 1)) (M4 (a0 + 1)) (ix 1) (ix 0) (ix (M4 a0 1)))) fun M5 => cpk 1 0 (M5 a0 1) 24 24 (bnd (mrow M5 (a0 + 2) (va_cpy (M5 (a0 + 2)) (M5 (a0 + 2)) (ix 1) (ix 0) (ix (M5 a0 1)))) fun M6 => cpk 1 0 (M6 a0 1) 24 24 (bnd (mrow M6 (a0 + 3) (va_cpy (M6 (a0 + 3)) (M6 (a0 + 3)) (ix 1) (ix 0) (ix (M6 a0 1)))) fun M7 => some (0, M7)))))
set_option maxHeartbeats 4000000 in
set_option maxRecDepth 100000 in
theorem c_X1_dropOldest {l : Launch} {w : Wp} {L : Ly} {a0 : Nat} {M : Mm} {R0 : Int32 × Mm} (h0 : LLog w L (a0)) (hf : f_X1_dropOldest a0 M = some R0) : CT l w L yX1_dropOldest cX1_dropOldest 1 none 1 [.ref a0] M R0 := by
  unfold f_X1_dropOldest at hf
  refine CT_of pn_X1 (Nat.le_of_ble_eq_true rfl) (fun E cx en => ?_)
  have cx : Ok w L E RX1 cX1_dropOldest 1 1 := cx
  show G l w L E M [(0, .ref a0)] 0 []
  refine g_aload_n (pc := 0) cx dX1_dropOldest_0 rfl 0 rfl ?_
  refine g_iconst (pc := 1) (v := 0) cx dX1_dropOldest_1 (by decide) ?_
  refine g_aload_n (pc := 2) cx dX1_dropOldest_2 rfl 0 rfl ?_
  refine fg_X1_21 (pc := 3) cx dX1_dropOldest_3 h0 ?_
  refine g_aload_n (pc := 6) cx dX1_dropOldest_6 rfl 0 rfl ?_
  refine fg_X1_24 (pc := 7) cx dX1_dropOldest_7 h0 ?_
  obtain ⟨q3, M1, hc2, hf⟩ := obn_some2 hf
  refine g_callVv (pc := 10) [.int 0, .ref (a0 + 4), .ref (a0 + 5)] [] cx lk_X1_50 vw_X1 (LLog_o h0) (by decide) (c_X1_setBy h0 (LLog_feederAhead h0) (LLog_closedAhead h0) hc2) dX1_dropOldest_10 (Nat.le_of_ble_eq_true rfl) ?_
  refine g_aload_n (pc := 13) cx dX1_dropOldest_13 rfl 0 rfl ?_
  refine g_bipush (pc := 14) (v := 23) cx dX1_dropOldest_14 (by decide) ?_
  refine fp_X1_38 (pc := 16) cx dX1_dropOldest_16 h0 hf (fun M4 hf => ?_)
  refine g_aload_n (pc := 19) cx dX1_dropOldest_19 rfl 0 rfl ?_
  refine fg_X1_9 (pc := 20) cx dX1_dropOldest_20 h0 ?_
  refine g_iconst (pc := 23) (v := 1) cx dX1_dropOldest_23 (by decide) ?_
  refine g_aload_n (pc := 24) cx dX1_dropOldest_24 rfl 0 rfl ?_
  refine fg_X1_9 (pc := 25) cx dX1_dropOldest_25 h0 ?_
  refine g_iconst (pc := 28) (v := 0) cx dX1_dropOldest_28 (by decide) ?_
  refine g_aload_n (pc := 29) cx dX1_dropOldest_29 rfl 0 rfl ?_
  refine fg_X1_38 (pc := 30) cx dX1_dropOldest_30 h0 ?_
  refine g_cpyI (pc := 33) cx (by decide) tm_X1_41 (LLog_kinds h0) (LLog_kinds h0) dX1_dropOldest_33 hf (Nat.le_of_ble_eq_true rfl) (fun M5 hf => ?_)
  refine g_aload_n (pc := 36) cx dX1_dropOldest_36 rfl 0 rfl ?_
  refine fg_X1_15 (pc := 37) cx dX1_dropOldest_37 h0 ?_
  refine g_iconst (pc := 40) (v := 1) cx dX1_dropOldest_40 (by decide) ?_
  refine g_aload_n (pc := 41) cx dX1_dropOldest_41 rfl 0 rfl ?_
  refine fg_X1_15 (pc := 42) cx dX1_dropOldest_42 h0 ?_
  refine g_iconst (pc := 45) (v := 0) cx dX1_dropOldest_45 (by decide) ?_
  refine g_aload_n (pc := 46) cx dX1_dropOldest_46 rfl 0 rfl ?_
  refine fg_X1_38 (pc := 47) cx dX1_dropOldest_47 h0 ?_
  refine g_cpyI (pc := 50) cx (by decide) tm_X1_41 (LLog_places h0) (LLog_places h0) dX1_dropOldest_50 hf (Nat.le_of_ble_eq_true rfl) (fun M6 hf => ?_)
  refine g_aload_n (pc := 53) cx dX1_dropOldest_53 rfl 0 rfl ?_
  refine fg_X1_18 (pc := 54) cx dX1_dropOldest_54 h0 ?_
  refine g_iconst (pc := 57) (v := 1) cx dX1_dropOldest_57 (by decide) ?_
  refine g_aload_n (pc := 58) cx dX1_dropOldest_58 rfl 0 rfl ?_
  refine fg_X1_18 (pc := 59) cx dX1_dropOldest_59 h0 ?_
  refine g_iconst (pc := 62) (v := 0) cx dX1_dropOldest_62 (by decide) ?_
  refine g_aload_n (pc := 63) cx dX1_dropOldest_63 rfl 0 rfl ?_
  refine fg_X1_38 (pc := 64) cx dX1_dropOldest_64 h0 ?_
  refine g_cpyI (pc := 67) cx (by decide) tm_X1_41 (LLog_times h0) (LLog_times h0) dX1_dropOldest_67 hf (Nat.le_of_ble_eq_true rfl) (fun M7 hf => ?_)
  exact g_vret (pc := 70) cx en dX1_dropOldest_70 hf
/-! X1_write -/
def b_X1_write_13 (a0 : Nat) (M : Mm) (x1 : Int32) (x2 : Int32) (x3 : Int32) : OR := ckd (M a0 1) 24 (bnd (mst M (a0 + 1) (ix (M a0 1)) x1) fun M1 => ckd (M1 a0 1) 24 (bnd (mst M1 (a0 + 2) (ix (M1 a0 1)) x2) fun M2 => ckd (M2 a0 1) 24 (bnd (mst M2 (a0 + 3) (ix (M2 a0 1)) x3) fun M3 => bnd (mst M3 a0 1 ((M3 a0 1) + 1)) fun M4 => bnd (mst M4 a0 0 ((M4 a0 0) + 1)) fun M5 => some (0, M5))))
def f_X1_write (a0 : Nat) (M : Mm) (x1 : Int32) (x2 : Int32) (x3 : Int32) : OR := if (M a0 1) < 24 then b_X1_write_13 a0 M x1 x2 x3 else obn (f_X1_dropOldest a0 M) fun _ M1 => (b_X1_write_13 a0 M1 x1 x2 x3)
set_option maxHeartbeats 4000000 in
set_option maxRecDepth 100000 in
theorem w_X1_write_13 {l : Launch} {w : Wp} {L : Ly} {E : Cx} {a0 : Nat} {x1 : Int32} {x2 : Int32} {x3 : Int32} {R0 : Int32 × Mm} (cx : Ok w L E RX1 cX1_write 4 2) (en : En w L E none R0) (h0 : LLog w L (a0)) {M : Mm} (hf : b_X1_write_13 a0 M x1 x2 x3 = some R0) : G l w L E M [(0, .ref a0), (1, .int x1), (2, .int x2), (3, .int x3)] 13 [] := by
  unfold b_X1_write_13 at hf
  refine g_aload_n (pc := 13) cx dX1_write_13 rfl 0 rfl ?_
  refine fg_X1_9 (pc := 14) cx dX1_write_14 h0 ?_
  refine g_aload_n (pc := 17) cx dX1_write_17 rfl 0 rfl ?_
  refine fg_X1_38 (pc := 18) cx dX1_write_18 h0 ?_
  refine g_iload_n (pc := 21) cx dX1_write_21 rfl 1 rfl ?_
  refine g_iast (pc := 22) cx (LLog_kinds h0) dX1_write_22 hf (fun M1 hf => ?_)
  refine g_aload_n (pc := 23) cx dX1_write_23 rfl 0 rfl ?_
  refine fg_X1_15 (pc := 24) cx dX1_write_24 h0 ?_
  refine g_aload_n (pc := 27) cx dX1_write_27 rfl 0 rfl ?_
  refine fg_X1_38 (pc := 28) cx dX1_write_28 h0 ?_
  refine g_iload_n (pc := 31) cx dX1_write_31 rfl 2 rfl ?_
  refine g_iast (pc := 32) cx (LLog_places h0) dX1_write_32 hf (fun M2 hf => ?_)
  refine g_aload_n (pc := 33) cx dX1_write_33 rfl 0 rfl ?_
  refine fg_X1_18 (pc := 34) cx dX1_write_34 h0 ?_
  refine g_aload_n (pc := 37) cx dX1_write_37 rfl 0 rfl ?_
  refine fg_X1_38 (pc := 38) cx dX1_write_38 h0 ?_
  refine g_iload_n (pc := 41) cx dX1_write_41 rfl 3 rfl ?_
  refine g_iast (pc := 42) cx (LLog_times h0) dX1_write_42 hf (fun M3 hf => ?_)
  refine g_aload_n (pc := 43) cx dX1_write_43 rfl 0 rfl ?_
  refine g_dup (pc := 44) cx dX1_write_44 rfl ?_
  refine fg_X1_38 (pc := 45) cx dX1_write_45 h0 ?_
  refine g_iconst (pc := 48) (v := 1) cx dX1_write_48 (by decide) ?_
  refine g_iadd (pc := 49) cx dX1_write_49 ?_
  refine fp_X1_38 (pc := 50) cx dX1_write_50 h0 hf (fun M4 hf => ?_)
  refine g_aload_n (pc := 53) cx dX1_write_53 rfl 0 rfl ?_
  refine g_dup (pc := 54) cx dX1_write_54 rfl ?_
  refine fg_X1_34 (pc := 55) cx dX1_write_55 h0 ?_
  refine g_iconst (pc := 58) (v := 1) cx dX1_write_58 (by decide) ?_
  refine g_iadd (pc := 59) cx dX1_write_59 ?_
  refine fp_X1_34 (pc := 60) cx dX1_write_60 h0 hf (fun M5 hf => ?_)
  exact g_vret (pc := 63) cx en dX1_write_63 hf
set_option maxHeartbeats 4000000 in
set_option maxRecDepth 100000 in
theorem c_X1_write {l : Launch} {w : Wp} {L : Ly} {a0 : Nat} {M : Mm} {x1 : Int32} {x2 : Int32} {x3 : Int32} {R0 : Int32 × Mm} (h0 : LLog w L (a0)) (hf : f_X1_write a0 M x1 x2 x3 = some R0) : CT l w L yX1_write cX1_write 4 none 2 [.ref a0, .int x1, .int x2, .int x3] M R0 := by
  unfold f_X1_write at hf
  refine CT_of pn_X1 (Nat.le_of_ble_eq_true rfl) (fun E cx en => ?_)
  have cx : Ok w L E RX1 cX1_write 4 2 := cx
  show G l w L E M [(0, .ref a0), (1, .int x1), (2, .int x2), (3, .int x3)] 0 []
  refine g_aload_n (pc := 0) cx dX1_write_0 rfl 0 rfl ?_
  refine fg_X1_38 (pc := 1) cx dX1_write_1 h0 ?_
  refine g_bipush (pc := 4) (v := 24) cx dX1_write_4 (by decide) ?_
  refine g_icmp_lt (pc := 6) (tgt := 13) cx dX1_write_6 rfl hf (fun hf => ?_) (fun hf => ?_)
  · exact w_X1_write_13 cx en h0 hf
  · refine g_aload_n (pc := 9) cx dX1_write_9 rfl 0 rfl ?_
    obtain ⟨q3, M1, hc2, hf⟩ := obn_some2 hf
    refine g_callVv (pc := 10) [] [] cx lk_X1_47 vw_X1 (LLog_o h0) (by decide) (c_X1_dropOldest h0 hc2) dX1_write_10 (Nat.le_of_ble_eq_true rfl) ?_
    exact w_X1_write_13 cx en h0 hf
/-! X1_tell -/
def l_X1_tell_32 (a0 : Nat) : Nat → Mm → Int32 → OR
  | 0, _, _ => none
  | k + 1, M, x1 => if x1 < (M a0 1) then obn (f_X1_setBy a0 (a0 + 6) (a0 + 7) M x1) fun _ M1 => (l_X1_tell_32 a0 k M1 (x1 + 1)) else some (0, M)
def f_X1_tell (a0 : Nat) (M : Mm) : OR := cpk 0 0 10 10 10 (bnd (mrow M (a0 + 6) (va_cpy (M (a0 + 4)) (M (a0 + 6)) (ix 0) (ix 0) (ix 10))) fun M1 => cpk 0 0 16 16 16 (bnd (mrow M1 (a0 + 7) (va_cpy (M1 (a0 + 5)) (M1 (a0 + 7)) (ix 0) (ix 0) (ix 16))) fun M2 => l_X1_tell_32 a0 FU M2 0))
set_option maxHeartbeats 4000000 in
set_option maxRecDepth 100000 in
theorem w_X1_tell_32 {l : Launch} {w : Wp} {L : Ly} {E : Cx} {a0 : Nat} {R0 : Int32 × Mm} (cx : Ok w L E RX1 cX1_tell 2 1) (en : En w L E none R0) (h0 : LLog w L (a0)) : ∀ (k : Nat) {M : Mm} {x1 : Int32}, l_X1_tell_32 a0 k M x1 = some R0 → G l w L E M [(0, .ref a0), (1, .int x1)] 32 [] := by
  intro k
  induction k with
  | zero =>
    intro M x1 hf
    exact absurd hf (by simp [l_X1_tell_32])
  | succ k ih =>
    intro M x1 hf
    unfold l_X1_tell_32 at hf
    refine g_iload_n (pc := 32) cx dX1_tell_32 rfl 1 rfl ?_
    refine g_aload_n (pc := 33) cx dX1_tell_33 rfl 0 rfl ?_
    refine fg_X1_38 (pc := 34) cx dX1_tell_34 h0 ?_
    refine g_icmp_ge (pc := 37) (tgt := 59) cx dX1_tell_37 rfl hf (fun hf => ?_) (fun hf => ?_)
    · refine g_aload_n (pc := 40) cx dX1_tell_40 rfl 0 rfl ?_
      refine g_iload_n (pc := 41) cx dX1_tell_41 rfl 1 rfl ?_
      refine g_aload_n (pc := 42) cx dX1_tell_42 rfl 0 rfl ?_
      refine fg_X1_28 (pc := 43) cx dX1_tell_43 h0 ?_
      refine g_aload_n (pc := 46) cx dX1_tell_46 rfl 0 rfl ?_
      refine fg_X1_31 (pc := 47) cx dX1_tell_47 h0 ?_
      obtain ⟨q3, M1, hc2, hf⟩ := obn_some2 hf
      refine g_callVv (pc := 50) [.int x1, .ref (a0 + 6), .ref (a0 + 7)] [] cx lk_X1_50 vw_X1 (LLog_o h0) (by decide) (c_X1_setBy h0 (LLog_feederTold h0) (LLog_closedTold h0) hc2) dX1_tell_50 (Nat.le_of_ble_eq_true rfl) ?_
      refine g_iinc (pc := 53) cx [(1, .int (x1 + 1)), (0, .ref a0)] dX1_tell_53 1 rfl rfl (by decide) rfl ?_
      refine g_goto (pc := 56) (tgt := 32) cx dX1_tell_56 rfl ?_
      refine g_sub [1, 0] [(0, .ref a0), (1, .int (x1 + 1))] rfl ?_
      exact ih hf
    · exact g_vret (pc := 59) cx en dX1_tell_59 hf
set_option maxHeartbeats 4000000 in
set_option maxRecDepth 100000 in
theorem c_X1_tell {l : Launch} {w : Wp} {L : Ly} {a0 : Nat} {M : Mm} {R0 : Int32 × Mm} (h0 : LLog w L (a0)) (hf : f_X1_tell a0 M = some R0) : CT l w L yX1_tell cX1_tell 2 none 1 [.ref a0] M R0 := by
  unfold f_X1_tell at hf
  refine CT_of pn_X1 (Nat.le_of_ble_eq_true rfl) (fun E cx en => ?_)
  have cx : Ok w L E RX1 cX1_tell 2 1 := cx
  show G l w L E M [(0, .ref a0)] 0 []
  refine g_aload_n (pc := 0) cx dX1_tell_0 rfl 0 rfl ?_
  refine fg_X1_21 (pc := 1) cx dX1_tell_1 h0 ?_
  refine g_iconst (pc := 4) (v := 0) cx dX1_tell_4 (by decide) ?_
  refine g_aload_n (pc := 5) cx dX1_tell_5 rfl 0 rfl ?_
  refine fg_X1_28 (pc := 6) cx dX1_tell_6 h0 ?_
  refine g_iconst (pc := 9) (v := 0) cx dX1_tell_9 (by decide) ?_
  refine g_bipush (pc := 10) (v := 10) cx dX1_tell_10 (by decide) ?_
  refine g_cpyI (pc := 12) cx (by decide) tm_X1_41 (LLog_feederAhead h0) (LLog_feederTold h0) dX1_tell_12 hf (Nat.le_of_ble_eq_true rfl) (fun M1 hf => ?_)
  refine g_aload_n (pc := 15) cx dX1_tell_15 rfl 0 rfl ?_
  refine fg_X1_24 (pc := 16) cx dX1_tell_16 h0 ?_
  refine g_iconst (pc := 19) (v := 0) cx dX1_tell_19 (by decide) ?_
  refine g_aload_n (pc := 20) cx dX1_tell_20 rfl 0 rfl ?_
  refine fg_X1_31 (pc := 21) cx dX1_tell_21 h0 ?_
  refine g_iconst (pc := 24) (v := 0) cx dX1_tell_24 (by decide) ?_
  refine g_bipush (pc := 25) (v := 16) cx dX1_tell_25 (by decide) ?_
  refine g_cpyZ (pc := 27) cx (by decide) tm_X1_41 (LLog_closedAhead h0) (LLog_closedTold h0) dX1_tell_27 hf (Nat.le_of_ble_eq_true rfl) (fun M2 hf => ?_)
  refine g_iconst (pc := 30) (v := 0) cx dX1_tell_30 (by decide) ?_
  refine g_istore_n (pc := 31) cx [(1, .int 0), (0, .ref a0)] dX1_tell_31 rfl (by decide) rfl ?_
  refine g_sub [1, 0] [(0, .ref a0), (1, .int 0)] rfl ?_
  exact w_X1_tell_32 cx en h0 FU hf
