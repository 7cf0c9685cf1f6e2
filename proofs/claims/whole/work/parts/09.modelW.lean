/-! X9_in -/
def b_X9_in_15 (M : Mm) (s0 : Int32) : OR := zrk s0 (some (s0, M))
def b_X9_in_14 (M : Mm) : OR := b_X9_in_15 M 0
def f_X9_in (M : Mm) (x0 x1 x2 : Int32) : OR := if x0 < x1 then b_X9_in_14 M else if x2 < x0 then b_X9_in_14 M else b_X9_in_15 M 1
set_option maxHeartbeats 4000000 in
set_option maxRecDepth 100000 in
theorem w_X9_in_15 {l : Launch} {w : Wp} {L : Ly} {E : Cx} {s0 : Int32} {R0 : Int32 × Mm} (cx : Ok w L E RX9 cX9_in 3 0) (en : En w L E (some .boolean) R0)  {M : Mm} (hf : b_X9_in_15 M s0 = some R0) : G l w L E M [] 15 [.int s0] := by
  unfold b_X9_in_15 at hf
  exact g_zret (pc := 15) cx en dX9_in_15 hf
set_option maxHeartbeats 4000000 in
set_option maxRecDepth 100000 in
theorem w_X9_in_14 {l : Launch} {w : Wp} {L : Ly} {E : Cx} {R0 : Int32 × Mm} (cx : Ok w L E RX9 cX9_in 3 0) (en : En w L E (some .boolean) R0)  {M : Mm} (hf : b_X9_in_14 M = some R0) : G l w L E M [] 14 [] := by
  unfold b_X9_in_14 at hf
  refine g_iconst (pc := 14) (v := 0) cx dX9_in_14 (by decide) ?_
  exact w_X9_in_15 cx en hf
set_option maxHeartbeats 4000000 in
set_option maxRecDepth 100000 in
theorem c_X9_in {l : Launch} {w : Wp} {L : Ly} {M : Mm} {x0 x1 x2 : Int32} {R0 : Int32 × Mm}  (hf : f_X9_in M x0 x1 x2 = some R0) : CT l w L yX9_in cX9_in 3 (some .boolean) 0 [.int x0, .int x1, .int x2] M R0 := by
  unfold f_X9_in at hf
  refine CT_of pn_X9 (Nat.le_of_ble_eq_true rfl) (fun E cx en => ?_)
  have cx : Ok w L E RX9 cX9_in 3 0 := cx
  show G l w L E M [(0, .int x0), (1, .int x1), (2, .int x2)] 0 []
  refine g_iload_n (pc := 0) cx dX9_in_0 rfl 0 rfl ?_
  refine g_iload_n (pc := 1) cx dX9_in_1 rfl 1 rfl ?_
  refine g_icmp_lt (pc := 2) (tgt := 14) cx dX9_in_2 rfl hf (fun hf => ?_) (fun hf => ?_)
  · refine g_sub [] [] rfl ?_
    exact w_X9_in_14 cx en hf
  · refine g_iload_n (pc := 5) cx dX9_in_5 rfl 0 rfl ?_
    refine g_iload_n (pc := 6) cx dX9_in_6 rfl 2 rfl ?_
    refine g_icmp_gt (pc := 7) (tgt := 14) cx dX9_in_7 rfl hf (fun hf => ?_) (fun hf => ?_)
    · refine g_sub [] [] rfl ?_
      exact w_X9_in_14 cx en hf
    · refine g_iconst (pc := 10) (v := 1) cx dX9_in_10 (by decide) ?_
      refine g_goto (pc := 11) (tgt := 15) cx dX9_in_11 rfl ?_
      refine g_sub [] [] rfl ?_
      exact w_X9_in_15 cx en hf
/-! X9_of -/
def f_X9_of (a0 : Nat) (M : Mm) (x1 x2 : Int32) : OR := ckd ((7 + (9 * x1)) + x2) 233 (some ((M (a0 + 1) (ix ((7 + (9 * x1)) + x2))), M))
set_option maxHeartbeats 4000000 in
set_option maxRecDepth 100000 in
theorem c_X9_of {l : Launch} {w : Wp} {L : Ly} {a0 : Nat} {M : Mm} {x1 x2 : Int32} {R0 : Int32 × Mm} (h0 : LTramWiresModel w L (a0)) (hf : f_X9_of a0 M x1 x2 = some R0) : CT l w L yX9_of cX9_of 3 (some .int) 0 [.ref a0, .int x1, .int x2] M R0 := by
  unfold f_X9_of at hf
  refine CT_of pn_X9 (Nat.le_of_ble_eq_true rfl) (fun E cx en => ?_)
  have cx : Ok w L E RX9 cX9_of 3 0 := cx
  show G l w L E M [(0, .ref a0), (1, .int x1), (2, .int x2)] 0 []
  refine g_aload_n (pc := 0) cx dX9_of_0 rfl 0 rfl ?_
  refine fg_X9_7 (pc := 1) cx dX9_of_1 h0 ?_
  refine g_bipush (pc := 4) (v := 7) cx dX9_of_4 (by decide) ?_
  refine g_bipush (pc := 6) (v := 9) cx dX9_of_6 (by decide) ?_
  refine g_iload_n (pc := 8) cx dX9_of_8 rfl 1 rfl ?_
  refine g_imul (pc := 9) cx dX9_of_9 ?_
  refine g_iadd (pc := 10) cx dX9_of_10 ?_
  refine g_iload_n (pc := 11) cx dX9_of_11 rfl 2 rfl ?_
  refine g_iadd (pc := 12) cx dX9_of_12 ?_
  refine g_iald (pc := 13) cx (LTramWiresModel_st h0) dX9_of_13 hf (fun hf => ?_)
  exact g_iret (pc := 14) cx en dX9_of_14 rfl hf
/-! X9_put -/
def f_X9_put (a0 : Nat) (M : Mm) (x1 x2 x3 : Int32) : OR := ckd ((7 + (9 * x1)) + x2) 233 (bnd (mst M (a0 + 1) (ix ((7 + (9 * x1)) + x2)) x3) fun M1 => some (0, M1))
set_option maxHeartbeats 4000000 in
set_option maxRecDepth 100000 in
theorem c_X9_put {l : Launch} {w : Wp} {L : Ly} {a0 : Nat} {M : Mm} {x1 x2 x3 : Int32} {R0 : Int32 × Mm} (h0 : LTramWiresModel w L (a0)) (hf : f_X9_put a0 M x1 x2 x3 = some R0) : CT l w L yX9_put cX9_put 4 none 0 [.ref a0, .int x1, .int x2, .int x3] M R0 := by
  unfold f_X9_put at hf
  refine CT_of pn_X9 (Nat.le_of_ble_eq_true rfl) (fun E cx en => ?_)
  have cx : Ok w L E RX9 cX9_put 4 0 := cx
  show G l w L E M [(0, .ref a0), (1, .int x1), (2, .int x2), (3, .int x3)] 0 []
  refine g_aload_n (pc := 0) cx dX9_put_0 rfl 0 rfl ?_
  refine fg_X9_7 (pc := 1) cx dX9_put_1 h0 ?_
  refine g_bipush (pc := 4) (v := 7) cx dX9_put_4 (by decide) ?_
  refine g_bipush (pc := 6) (v := 9) cx dX9_put_6 (by decide) ?_
  refine g_iload_n (pc := 8) cx dX9_put_8 rfl 1 rfl ?_
  refine g_imul (pc := 9) cx dX9_put_9 ?_
  refine g_iadd (pc := 10) cx dX9_put_10 ?_
  refine g_iload_n (pc := 11) cx dX9_put_11 rfl 2 rfl ?_
  refine g_iadd (pc := 12) cx dX9_put_12 ?_
  refine g_iload_n (pc := 13) cx dX9_put_13 rfl 3 rfl ?_
  refine g_iast (pc := 14) cx (LTramWiresModel_st h0) dX9_put_14 hf (fun M1 hf => ?_)
  exact g_vret (pc := 15) cx en dX9_put_15 hf
/-! X9_at -/
def f_X9_at (a0 : Nat) (M : Mm) (x1 x2 : Int32) : OR := ckd ((97 + (4 * x1)) + x2) 233 (some ((M (a0 + 1) (ix ((97 + (4 * x1)) + x2))), M))
set_option maxHeartbeats 4000000 in
set_option maxRecDepth 100000 in
theorem c_X9_at {l : Launch} {w : Wp} {L : Ly} {a0 : Nat} {M : Mm} {x1 x2 : Int32} {R0 : Int32 × Mm} (h0 : LTramWiresModel w L (a0)) (hf : f_X9_at a0 M x1 x2 = some R0) : CT l w L yX9_at cX9_at 3 (some .int) 0 [.ref a0, .int x1, .int x2] M R0 := by
  unfold f_X9_at at hf
  refine CT_of pn_X9 (Nat.le_of_ble_eq_true rfl) (fun E cx en => ?_)
  have cx : Ok w L E RX9 cX9_at 3 0 := cx
  show G l w L E M [(0, .ref a0), (1, .int x1), (2, .int x2)] 0 []
  refine g_aload_n (pc := 0) cx dX9_at_0 rfl 0 rfl ?_
  refine fg_X9_7 (pc := 1) cx dX9_at_1 h0 ?_
  refine g_bipush (pc := 4) (v := 97) cx dX9_at_4 (by decide) ?_
  refine g_iconst (pc := 6) (v := 4) cx dX9_at_6 (by decide) ?_
  refine g_iload_n (pc := 7) cx dX9_at_7 rfl 1 rfl ?_
  refine g_imul (pc := 8) cx dX9_at_8 ?_
  refine g_iadd (pc := 9) cx dX9_at_9 ?_
  refine g_iload_n (pc := 10) cx dX9_at_10 rfl 2 rfl ?_
  refine g_iadd (pc := 11) cx dX9_at_11 ?_
  refine g_iald (pc := 12) cx (LTramWiresModel_st h0) dX9_at_12 hf (fun hf => ?_)
  exact g_iret (pc := 13) cx en dX9_at_13 rfl hf
/-! X9_lay -/
def f_X9_lay (a0 : Nat) (M : Mm) (x1 x2 x3 : Int32) : OR := ckd ((97 + (4 * x1)) + x2) 233 (bnd (mst M (a0 + 1) (ix ((97 + (4 * x1)) + x2)) x3) fun M1 => some (0, M1))
set_option maxHeartbeats 4000000 in
set_option maxRecDepth 100000 in
theorem c_X9_lay {l : Launch} {w : Wp} {L : Ly} {a0 : Nat} {M : Mm} {x1 x2 x3 : Int32} {R0 : Int32 × Mm} (h0 : LTramWiresModel w L (a0)) (hf : f_X9_lay a0 M x1 x2 x3 = some R0) : CT l w L yX9_lay cX9_lay 4 none 0 [.ref a0, .int x1, .int x2, .int x3] M R0 := by
  unfold f_X9_lay at hf
  refine CT_of pn_X9 (Nat.le_of_ble_eq_true rfl) (fun E cx en => ?_)
  have cx : Ok w L E RX9 cX9_lay 4 0 := cx
  show G l w L E M [(0, .ref a0), (1, .int x1), (2, .int x2), (3, .int x3)] 0 []
  refine g_aload_n (pc := 0) cx dX9_lay_0 rfl 0 rfl ?_
  refine fg_X9_7 (pc := 1) cx dX9_lay_1 h0 ?_
  refine g_bipush (pc := 4) (v := 97) cx dX9_lay_4 (by decide) ?_
  refine g_iconst (pc := 6) (v := 4) cx dX9_lay_6 (by decide) ?_
  refine g_iload_n (pc := 7) cx dX9_lay_7 rfl 1 rfl ?_
  refine g_imul (pc := 8) cx dX9_lay_8 ?_
  refine g_iadd (pc := 9) cx dX9_lay_9 ?_
  refine g_iload_n (pc := 10) cx dX9_lay_10 rfl 2 rfl ?_
  refine g_iadd (pc := 11) cx dX9_lay_11 ?_
  refine g_iload_n (pc := 12) cx dX9_lay_12 rfl 3 rfl ?_
  refine g_iast (pc := 13) cx (LTramWiresModel_st h0) dX9_lay_13 hf (fun M1 hf => ?_)
  exact g_vret (pc := 14) cx en dX9_lay_14 hf
/-! X9_isSection -/
def f_X9_isSection (a0 : Nat) (M : Mm) (x1 : Int32) : OR := ckd 0 233 (obn (f_X9_in M x1 0 ((M (a0 + 1) (ix 0)) - 1)) fun q3 M1 => (zrk q3 (some (q3, M1))))
set_option maxHeartbeats 4000000 in
set_option maxRecDepth 100000 in
theorem c_X9_isSection {l : Launch} {w : Wp} {L : Ly} {a0 : Nat} {M : Mm} {x1 : Int32} {R0 : Int32 × Mm} (h0 : LTramWiresModel w L (a0)) (hf : f_X9_isSection a0 M x1 = some R0) : CT l w L yX9_isSection cX9_isSection 2 (some .boolean) 1 [.ref a0, .int x1] M R0 := by
  unfold f_X9_isSection at hf
  refine CT_of pn_X9 (Nat.le_of_ble_eq_true rfl) (fun E cx en => ?_)
  have cx : Ok w L E RX9 cX9_isSection 2 1 := cx
  show G l w L E M [(0, .ref a0), (1, .int x1)] 0 []
  refine g_iload_n (pc := 0) cx dX9_isSection_0 rfl 1 rfl ?_
  refine g_iconst (pc := 1) (v := 0) cx dX9_isSection_1 (by decide) ?_
  refine g_aload_n (pc := 2) cx dX9_isSection_2 rfl 0 rfl ?_
  refine fg_X9_7 (pc := 3) cx dX9_isSection_3 h0 ?_
  refine g_iconst (pc := 6) (v := 0) cx dX9_isSection_6 (by decide) ?_
  refine g_iald (pc := 7) cx (LTramWiresModel_st h0) dX9_isSection_7 hf (fun hf => ?_)
  refine g_iconst (pc := 8) (v := 1) cx dX9_isSection_8 (by decide) ?_
  refine g_isub (pc := 9) cx dX9_isSection_9 ?_
  obtain ⟨q3, M1, hc2, hf⟩ := obn_some2 hf
  refine g_callSi (pc := 10) [.int x1, .int 0, .int ((M (a0 + 1) (ix 0)) - 1)] [] cx lk_X9_25 (by decide) (c_X9_in hc2) dX9_isSection_10 (Nat.le_of_ble_eq_true rfl) ?_
  exact g_zret (pc := 13) cx en dX9_isSection_13 hf
/-! X9_isIsolator -/
def f_X9_isIsolator (a0 : Nat) (M : Mm) (x1 : Int32) : OR := ckd 1 233 (obn (f_X9_in M x1 0 ((M (a0 + 1) (ix 1)) - 1)) fun q3 M1 => (zrk q3 (some (q3, M1))))
set_option maxHeartbeats 4000000 in
set_option maxRecDepth 100000 in
theorem c_X9_isIsolator {l : Launch} {w : Wp} {L : Ly} {a0 : Nat} {M : Mm} {x1 : Int32} {R0 : Int32 × Mm} (h0 : LTramWiresModel w L (a0)) (hf : f_X9_isIsolator a0 M x1 = some R0) : CT l w L yX9_isIsolator cX9_isIsolator 2 (some .boolean) 1 [.ref a0, .int x1] M R0 := by
  unfold f_X9_isIsolator at hf
  refine CT_of pn_X9 (Nat.le_of_ble_eq_true rfl) (fun E cx en => ?_)
  have cx : Ok w L E RX9 cX9_isIsolator 2 1 := cx
  show G l w L E M [(0, .ref a0), (1, .int x1)] 0 []
  refine g_iload_n (pc := 0) cx dX9_isIsolator_0 rfl 1 rfl ?_
  refine g_iconst (pc := 1) (v := 0) cx dX9_isIsolator_1 (by decide) ?_
  refine g_aload_n (pc := 2) cx dX9_isIsolator_2 rfl 0 rfl ?_
  refine fg_X9_7 (pc := 3) cx dX9_isIsolator_3 h0 ?_
  refine g_iconst (pc := 6) (v := 1) cx dX9_isIsolator_6 (by decide) ?_
  refine g_iald (pc := 7) cx (LTramWiresModel_st h0) dX9_isIsolator_7 hf (fun hf => ?_)
  refine g_iconst (pc := 8) (v := 1) cx dX9_isIsolator_8 (by decide) ?_
  refine g_isub (pc := 9) cx dX9_isIsolator_9 ?_
  obtain ⟨q3, M1, hc2, hf⟩ := obn_some2 hf
  refine g_callSi (pc := 10) [.int x1, .int 0, .int ((M (a0 + 1) (ix 1)) - 1)] [] cx lk_X9_25 (by decide) (c_X9_in hc2) dX9_isIsolator_10 (Nat.le_of_ble_eq_true rfl) ?_
  exact g_zret (pc := 13) cx en dX9_isIsolator_13 hf
/-! X9_bits -/
def l_X9_bits_4 : Nat → Mm → Int32 → Int32 → OR
  | 0, _, _, _ => none
  | k + 1, M, x1, x2 => if x2 = 0 then some (x1, M) else bnd (x2 &&& (x2 - 1)) fun v1 => l_X9_bits_4  k M (x1 + 1) v1
def f_X9_bits (M : Mm) (x0 : Int32) : OR := l_X9_bits_4  FU M 0 x0
set_option maxHeartbeats 4000000 in
set_option maxRecDepth 100000 in
theorem w_X9_bits_4 {l : Launch} {w : Wp} {L : Ly} {E : Cx} {R0 : Int32 × Mm} (cx : Ok w L E RX9 cX9_bits 3 0) (en : En w L E (some .int) R0)  : ∀ (k : Nat) {M : Mm} {x1 x2 : Int32}, l_X9_bits_4  k M x1 x2 = some R0 → G l w L E M [(1, .int x1), (2, .int x2)] 4 [] := by
  intro k
  induction k with
  | zero =>
    intro M x1 x2 hf
    exact absurd hf (by simp [l_X9_bits_4])
  | succ k ih =>
    intro M x1 x2 hf
    unfold l_X9_bits_4 at hf
    refine g_iload_n (pc := 4) cx dX9_bits_4 rfl 1 rfl ?_
    refine g_if_eq (pc := 5) (tgt := 20) cx dX9_bits_5 rfl hf (fun hf => ?_) (fun hf => ?_)
    · refine g_iload_n (pc := 20) cx dX9_bits_20 rfl 0 rfl ?_
      exact g_iret (pc := 21) cx en dX9_bits_21 rfl hf
    · refine g_iinc (pc := 8) cx [(1, .int (x1 + 1)), (2, .int x2)] dX9_bits_8 0 rfl rfl (by decide) rfl ?_
      refine g_iload_n (pc := 11) cx dX9_bits_11 rfl 1 rfl ?_
      refine g_iload_n (pc := 12) cx dX9_bits_12 rfl 1 rfl ?_
      refine g_iconst (pc := 13) (v := 1) cx dX9_bits_13 (by decide) ?_
      refine g_isub (pc := 14) cx dX9_bits_14 ?_
      refine g_iand (pc := 15) cx dX9_bits_15 ?_
      refine g_nm hf (fun v1 hf => ?_)
      refine g_istore_n (pc := 16) cx [(2, .int v1), (1, .int (x1 + 1))] dX9_bits_16 rfl (by decide) rfl ?_
      refine g_goto (pc := 17) (tgt := 4) cx dX9_bits_17 rfl ?_
      refine g_sub [1, 0] [(1, .int (x1 + 1)), (2, .int v1)] rfl ?_
      exact ih hf
set_option maxHeartbeats 4000000 in
set_option maxRecDepth 100000 in
theorem c_X9_bits {l : Launch} {w : Wp} {L : Ly} {M : Mm} {x0 : Int32} {R0 : Int32 × Mm}  (hf : f_X9_bits M x0 = some R0) : CT l w L yX9_bits cX9_bits 3 (some .int) 0 [.int x0] M R0 := by
  unfold f_X9_bits at hf
  refine CT_of pn_X9 (Nat.le_of_ble_eq_true rfl) (fun E cx en => ?_)
  have cx : Ok w L E RX9 cX9_bits 3 0 := cx
  show G l w L E M [(0, .int x0)] 0 []
  refine g_iconst (pc := 0) (v := 0) cx dX9_bits_0 (by decide) ?_
  refine g_istore_n (pc := 1) cx [(1, .int 0), (0, .int x0)] dX9_bits_1 rfl (by decide) rfl ?_
  refine g_iload_n (pc := 2) cx dX9_bits_2 rfl 1 rfl ?_
  refine g_istore_n (pc := 3) cx [(2, .int x0), (1, .int 0), (0, .int x0)] dX9_bits_3 rfl (by decide) rfl ?_
  refine g_sub [1, 0] [(1, .int 0), (2, .int x0)] rfl ?_
  exact w_X9_bits_4 cx en FU hf
/-! X9_records -/
def l_X9_records_51 (a0 : Nat) : Nat → Mm → Int32 → OR
  | 0, _, _ => none
  | k + 1, M, x1 => if x1 < 233 then ckd x1 233 (ckd ((233 * (M a0 3)) + x1) 1165 (bnd (mst M (a0 + 2) (ix ((233 * (M a0 3)) + x1)) (M (a0 + 1) (ix x1))) fun M1 => l_X9_records_51 a0 k M1 (x1 + 1))) else bnd (mst M a0 3 ((M a0 3) + 1)) fun M2 => some (0, M2)
def b_X9_records_49 (a0 : Nat) (M : Mm) : OR := l_X9_records_51 a0 FU M 0
def l_X9_records_10 (a0 : Nat) : Nat → Mm → Int32 → OR
  | 0, _, _ => none
  | k + 1, M, x1 => if x1 < 932 then ckd (x1 + 233) 1165 (ckd x1 1165 (bnd (mst M (a0 + 2) (ix x1) (M (a0 + 2) (ix (x1 + 233)))) fun M1 => l_X9_records_10 a0 k M1 (x1 + 1))) else bnd (mst M a0 3 ((M a0 3) - 1)) fun M2 => b_X9_records_49 a0 M2
def f_X9_records (a0 : Nat) (M : Mm) : OR := if (M a0 3) = 5 then l_X9_records_10 a0 FU M 0 else b_X9_records_49 a0 M
set_option maxHeartbeats 4000000 in
set_option maxRecDepth 100000 in
theorem w_X9_records_51 {l : Launch} {w : Wp} {L : Ly} {E : Cx} {a0 : Nat} {R0 : Int32 × Mm} (cx : Ok w L E RX9 cX9_records 2 0) (en : En w L E none R0) (h0 : LTramWiresModel w L (a0)) : ∀ (k : Nat) {M : Mm} {x1 : Int32}, l_X9_records_51 a0 k M x1 = some R0 → G l w L E M [(0, .ref a0), (1, .int x1)] 51 [] := by
  intro k
  induction k with
  | zero =>
    intro M x1 hf
    exact absurd hf (by simp [l_X9_records_51])
  | succ k ih =>
    intro M x1 hf
    unfold l_X9_records_51 at hf
    refine g_iload_n (pc := 51) cx dX9_records_51 rfl 1 rfl ?_
    refine g_sipush (pc := 52) (v := 233) cx dX9_records_52 (by decide) ?_
    refine g_icmp_ge (pc := 55) (tgt := 85) cx dX9_records_55 rfl hf (fun hf => ?_) (fun hf => ?_)
    · refine g_aload_n (pc := 58) cx dX9_records_58 rfl 0 rfl ?_
      refine fg_X9_13 (pc := 59) cx dX9_records_59 h0 ?_
      refine g_sipush (pc := 62) (v := 233) cx dX9_records_62 (by decide) ?_
      refine g_aload_n (pc := 65) cx dX9_records_65 rfl 0 rfl ?_
      refine fg_X9_29 (pc := 66) cx dX9_records_66 h0 ?_
      refine g_imul (pc := 69) cx dX9_records_69 ?_
      refine g_iload_n (pc := 70) cx dX9_records_70 rfl 1 rfl ?_
      refine g_iadd (pc := 71) cx dX9_records_71 ?_
      refine g_aload_n (pc := 72) cx dX9_records_72 rfl 0 rfl ?_
      refine fg_X9_7 (pc := 73) cx dX9_records_73 h0 ?_
      refine g_iload_n (pc := 76) cx dX9_records_76 rfl 1 rfl ?_
      refine g_iald (pc := 77) cx (LTramWiresModel_st h0) dX9_records_77 hf (fun hf => ?_)
      refine g_iast (pc := 78) cx (LTramWiresModel_past h0) dX9_records_78 hf (fun M1 hf => ?_)
      refine g_iinc (pc := 79) cx [(1, .int (x1 + 1)), (0, .ref a0)] dX9_records_79 1 rfl rfl (by decide) rfl ?_
      refine g_goto (pc := 82) (tgt := 51) cx dX9_records_82 rfl ?_
      refine g_sub [1, 0] [(0, .ref a0), (1, .int (x1 + 1))] rfl ?_
      exact ih hf
    · refine g_aload_n (pc := 85) cx dX9_records_85 rfl 0 rfl ?_
      refine g_dup (pc := 86) cx dX9_records_86 rfl ?_
      refine fg_X9_29 (pc := 87) cx dX9_records_87 h0 ?_
      refine g_iconst (pc := 90) (v := 1) cx dX9_records_90 (by decide) ?_
      refine g_iadd (pc := 91) cx dX9_records_91 ?_
      refine fp_X9_29 (pc := 92) cx dX9_records_92 h0 hf (fun M2 hf => ?_)
      exact g_vret (pc := 95) cx en dX9_records_95 hf
set_option maxHeartbeats 4000000 in
set_option maxRecDepth 100000 in
theorem w_X9_records_49 {l : Launch} {w : Wp} {L : Ly} {E : Cx} {a0 : Nat} {R0 : Int32 × Mm} (cx : Ok w L E RX9 cX9_records 2 0) (en : En w L E none R0) (h0 : LTramWiresModel w L (a0)) {M : Mm} (hf : b_X9_records_49 a0 M = some R0) : G l w L E M [(0, .ref a0)] 49 [] := by
  unfold b_X9_records_49 at hf
  refine g_iconst (pc := 49) (v := 0) cx dX9_records_49 (by decide) ?_
  refine g_istore_n (pc := 50) cx [(1, .int 0), (0, .ref a0)] dX9_records_50 rfl (by decide) rfl ?_
  refine g_sub [1, 0] [(0, .ref a0), (1, .int 0)] rfl ?_
  exact w_X9_records_51 cx en h0 FU hf
set_option maxHeartbeats 4000000 in
set_option maxRecDepth 100000 in
theorem w_X9_records_10 {l : Launch} {w : Wp} {L : Ly} {E : Cx} {a0 : Nat} {R0 : Int32 × Mm} (cx : Ok w L E RX9 cX9_records 2 0) (en : En w L E none R0) (h0 : LTramWiresModel w L (a0)) : ∀ (k : Nat) {M : Mm} {x1 : Int32}, l_X9_records_10 a0 k M x1 = some R0 → G l w L E M [(0, .ref a0), (1, .int x1)] 10 [] := by
  intro k
  induction k with
  | zero =>
    intro M x1 hf
    exact absurd hf (by simp [l_X9_records_10])
  | succ k ih =>
    intro M x1 hf
    unfold l_X9_records_10 at hf
    refine g_iload_n (pc := 10) cx dX9_records_10 rfl 1 rfl ?_
    refine g_sipush (pc := 11) (v := 932) cx dX9_records_11 (by decide) ?_
    refine g_icmp_ge (pc := 14) (tgt := 39) cx dX9_records_14 rfl hf (fun hf => ?_) (fun hf => ?_)
    · refine g_aload_n (pc := 17) cx dX9_records_17 rfl 0 rfl ?_
      refine fg_X9_13 (pc := 18) cx dX9_records_18 h0 ?_
      refine g_iload_n (pc := 21) cx dX9_records_21 rfl 1 rfl ?_
      refine g_aload_n (pc := 22) cx dX9_records_22 rfl 0 rfl ?_
      refine fg_X9_13 (pc := 23) cx dX9_records_23 h0 ?_
      refine g_iload_n (pc := 26) cx dX9_records_26 rfl 1 rfl ?_
      refine g_sipush (pc := 27) (v := 233) cx dX9_records_27 (by decide) ?_
      refine g_iadd (pc := 30) cx dX9_records_30 ?_
      refine g_iald (pc := 31) cx (LTramWiresModel_past h0) dX9_records_31 hf (fun hf => ?_)
      refine g_iast (pc := 32) cx (LTramWiresModel_past h0) dX9_records_32 hf (fun M1 hf => ?_)
      refine g_iinc (pc := 33) cx [(1, .int (x1 + 1)), (0, .ref a0)] dX9_records_33 1 rfl rfl (by decide) rfl ?_
      refine g_goto (pc := 36) (tgt := 10) cx dX9_records_36 rfl ?_
      refine g_sub [1, 0] [(0, .ref a0), (1, .int (x1 + 1))] rfl ?_
      exact ih hf
    · refine g_aload_n (pc := 39) cx dX9_records_39 rfl 0 rfl ?_
      refine g_dup (pc := 40) cx dX9_records_40 rfl ?_
      refine fg_X9_29 (pc := 41) cx dX9_records_41 h0 ?_
      refine g_iconst (pc := 44) (v := 1) cx dX9_records_44 (by decide) ?_
      refine g_isub (pc := 45) cx dX9_records_45 ?_
      refine fp_X9_29 (pc := 46) cx dX9_records_46 h0 hf (fun M2 hf => ?_)
      refine g_sub [0] [(0, .ref a0)] rfl ?_
      exact w_X9_records_49 cx en h0 hf
set_option maxHeartbeats 4000000 in
set_option maxRecDepth 100000 in
theorem c_X9_records {l : Launch} {w : Wp} {L : Ly} {a0 : Nat} {M : Mm} {R0 : Int32 × Mm} (h0 : LTramWiresModel w L (a0)) (hf : f_X9_records a0 M = some R0) : CT l w L yX9_records cX9_records 2 none 0 [.ref a0] M R0 := by
  unfold f_X9_records at hf
  refine CT_of pn_X9 (Nat.le_of_ble_eq_true rfl) (fun E cx en => ?_)
  have cx : Ok w L E RX9 cX9_records 2 0 := cx
  show G l w L E M [(0, .ref a0)] 0 []
  refine g_aload_n (pc := 0) cx dX9_records_0 rfl 0 rfl ?_
  refine fg_X9_29 (pc := 1) cx dX9_records_1 h0 ?_
  refine g_iconst (pc := 4) (v := 5) cx dX9_records_4 (by decide) ?_
  refine g_icmp_ne (pc := 5) (tgt := 49) cx dX9_records_5 rfl hf (fun hf => ?_) (fun hf => ?_)
  · refine g_iconst (pc := 8) (v := 0) cx dX9_records_8 (by decide) ?_
    refine g_istore_n (pc := 9) cx [(1, .int 0), (0, .ref a0)] dX9_records_9 rfl (by decide) rfl ?_
    refine g_sub [1, 0] [(0, .ref a0), (1, .int 0)] rfl ?_
    exact w_X9_records_10 cx en h0 FU hf
  · exact w_X9_records_49 cx en h0 hf
/-! X9_undo -/
def l_X9_undo_22 (a0 : Nat) : Nat → Mm → Int32 → OR
  | 0, _, _ => none
  | k + 1, M, x1 => if x1 < 233 then ckd ((233 * (M a0 3)) + x1) 1165 (ckd x1 233 (bnd (mst M (a0 + 1) (ix x1) (M (a0 + 2) (ix ((233 * (M a0 3)) + x1)))) fun M1 => l_X9_undo_22 a0 k M1 (x1 + 1))) else some ((M a0 3), M)
def f_X9_undo (a0 : Nat) (M : Mm) : OR := if (M a0 3) = 0 then some ((-2), M) else bnd (mst M a0 3 ((M a0 3) - 1)) fun M1 => l_X9_undo_22 a0 FU M1 0
set_option maxHeartbeats 4000000 in
set_option maxRecDepth 100000 in
theorem w_X9_undo_22 {l : Launch} {w : Wp} {L : Ly} {E : Cx} {a0 : Nat} {R0 : Int32 × Mm} (cx : Ok w L E RX9 cX9_undo 2 0) (en : En w L E (some .int) R0) (h0 : LTramWiresModel w L (a0)) : ∀ (k : Nat) {M : Mm} {x1 : Int32}, l_X9_undo_22 a0 k M x1 = some R0 → G l w L E M [(0, .ref a0), (1, .int x1)] 22 [] := by
  intro k
  induction k with
  | zero =>
    intro M x1 hf
    exact absurd hf (by simp [l_X9_undo_22])
  | succ k ih =>
    intro M x1 hf
    unfold l_X9_undo_22 at hf
    refine g_iload_n (pc := 22) cx dX9_undo_22 rfl 1 rfl ?_
    refine g_sipush (pc := 23) (v := 233) cx dX9_undo_23 (by decide) ?_
    refine g_icmp_ge (pc := 26) (tgt := 56) cx dX9_undo_26 rfl hf (fun hf => ?_) (fun hf => ?_)
    · refine g_aload_n (pc := 29) cx dX9_undo_29 rfl 0 rfl ?_
      refine fg_X9_7 (pc := 30) cx dX9_undo_30 h0 ?_
      refine g_iload_n (pc := 33) cx dX9_undo_33 rfl 1 rfl ?_
      refine g_aload_n (pc := 34) cx dX9_undo_34 rfl 0 rfl ?_
      refine fg_X9_13 (pc := 35) cx dX9_undo_35 h0 ?_
      refine g_sipush (pc := 38) (v := 233) cx dX9_undo_38 (by decide) ?_
      refine g_aload_n (pc := 41) cx dX9_undo_41 rfl 0 rfl ?_
      refine fg_X9_29 (pc := 42) cx dX9_undo_42 h0 ?_
      refine g_imul (pc := 45) cx dX9_undo_45 ?_
      refine g_iload_n (pc := 46) cx dX9_undo_46 rfl 1 rfl ?_
      refine g_iadd (pc := 47) cx dX9_undo_47 ?_
      refine g_iald (pc := 48) cx (LTramWiresModel_past h0) dX9_undo_48 hf (fun hf => ?_)
      refine g_iast (pc := 49) cx (LTramWiresModel_st h0) dX9_undo_49 hf (fun M1 hf => ?_)
      refine g_iinc (pc := 50) cx [(1, .int (x1 + 1)), (0, .ref a0)] dX9_undo_50 1 rfl rfl (by decide) rfl ?_
      refine g_goto (pc := 53) (tgt := 22) cx dX9_undo_53 rfl ?_
      refine g_sub [1, 0] [(0, .ref a0), (1, .int (x1 + 1))] rfl ?_
      exact ih hf
    · refine g_aload_n (pc := 56) cx dX9_undo_56 rfl 0 rfl ?_
      refine fg_X9_29 (pc := 57) cx dX9_undo_57 h0 ?_
      exact g_iret (pc := 60) cx en dX9_undo_60 rfl hf
set_option maxHeartbeats 4000000 in
set_option maxRecDepth 100000 in
theorem c_X9_undo {l : Launch} {w : Wp} {L : Ly} {a0 : Nat} {M : Mm} {R0 : Int32 × Mm} (h0 : LTramWiresModel w L (a0)) (hf : f_X9_undo a0 M = some R0) : CT l w L yX9_undo cX9_undo 2 (some .int) 0 [.ref a0] M R0 := by
  unfold f_X9_undo at hf
  refine CT_of pn_X9 (Nat.le_of_ble_eq_true rfl) (fun E cx en => ?_)
  have cx : Ok w L E RX9 cX9_undo 2 0 := cx
  show G l w L E M [(0, .ref a0)] 0 []
  refine g_aload_n (pc := 0) cx dX9_undo_0 rfl 0 rfl ?_
  refine fg_X9_29 (pc := 1) cx dX9_undo_1 h0 ?_
  refine g_if_ne (pc := 4) (tgt := 10) cx dX9_undo_4 rfl hf (fun hf => ?_) (fun hf => ?_)
  · refine g_bipush (pc := 7) (v := (-2)) cx dX9_undo_7 (by decide) ?_
    exact g_iret (pc := 9) cx en dX9_undo_9 rfl hf
  · refine g_aload_n (pc := 10) cx dX9_undo_10 rfl 0 rfl ?_
    refine g_dup (pc := 11) cx dX9_undo_11 rfl ?_
    refine fg_X9_29 (pc := 12) cx dX9_undo_12 h0 ?_
    refine g_iconst (pc := 15) (v := 1) cx dX9_undo_15 (by decide) ?_
    refine g_isub (pc := 16) cx dX9_undo_16 ?_
    refine fp_X9_29 (pc := 17) cx dX9_undo_17 h0 hf (fun M1 hf => ?_)
    refine g_iconst (pc := 20) (v := 0) cx dX9_undo_20 (by decide) ?_
    refine g_istore_n (pc := 21) cx [(1, .int 0), (0, .ref a0)] dX9_undo_21 rfl (by decide) rfl ?_
    refine g_sub [1, 0] [(0, .ref a0), (1, .int 0)] rfl ?_
    exact w_X9_undo_22 cx en h0 FU hf
/-! X9_laysAside -/
def l_X9_laysAside_2 (a0 : Nat) : Nat → Mm → Int32 → OR
  | 0, _, _ => none
  | k + 1, M, x1 => if x1 < 233 then ckd x1 233 (ckd x1 233 (bnd (mst M (a0 + 3) (ix x1) (M (a0 + 1) (ix x1))) fun M1 => l_X9_laysAside_2 a0 k M1 (x1 + 1))) else some (0, M)
def f_X9_laysAside (a0 : Nat) (M : Mm) : OR := l_X9_laysAside_2 a0 FU M 0
set_option maxHeartbeats 4000000 in
set_option maxRecDepth 100000 in
theorem w_X9_laysAside_2 {l : Launch} {w : Wp} {L : Ly} {E : Cx} {a0 : Nat} {R0 : Int32 × Mm} (cx : Ok w L E RX9 cX9_laysAside 2 0) (en : En w L E none R0) (h0 : LTramWiresModel w L (a0)) : ∀ (k : Nat) {M : Mm} {x1 : Int32}, l_X9_laysAside_2 a0 k M x1 = some R0 → G l w L E M [(0, .ref a0), (1, .int x1)] 2 [] := by
  intro k
  induction k with
  | zero =>
    intro M x1 hf
    exact absurd hf (by simp [l_X9_laysAside_2])
  | succ k ih =>
    intro M x1 hf
    unfold l_X9_laysAside_2 at hf
    refine g_iload_n (pc := 2) cx dX9_laysAside_2 rfl 1 rfl ?_
    refine g_sipush (pc := 3) (v := 233) cx dX9_laysAside_3 (by decide) ?_
    refine g_icmp_ge (pc := 6) (tgt := 27) cx dX9_laysAside_6 rfl hf (fun hf => ?_) (fun hf => ?_)
    · refine g_aload_n (pc := 9) cx dX9_laysAside_9 rfl 0 rfl ?_
      refine fg_X9_16 (pc := 10) cx dX9_laysAside_10 h0 ?_
      refine g_iload_n (pc := 13) cx dX9_laysAside_13 rfl 1 rfl ?_
      refine g_aload_n (pc := 14) cx dX9_laysAside_14 rfl 0 rfl ?_
      refine fg_X9_7 (pc := 15) cx dX9_laysAside_15 h0 ?_
      refine g_iload_n (pc := 18) cx dX9_laysAside_18 rfl 1 rfl ?_
      refine g_iald (pc := 19) cx (LTramWiresModel_st h0) dX9_laysAside_19 hf (fun hf => ?_)
      refine g_iast (pc := 20) cx (LTramWiresModel_aside h0) dX9_laysAside_20 hf (fun M1 hf => ?_)
      refine g_iinc (pc := 21) cx [(1, .int (x1 + 1)), (0, .ref a0)] dX9_laysAside_21 1 rfl rfl (by decide) rfl ?_
      refine g_goto (pc := 24) (tgt := 2) cx dX9_laysAside_24 rfl ?_
      refine g_sub [1, 0] [(0, .ref a0), (1, .int (x1 + 1))] rfl ?_
      exact ih hf
    · exact g_vret (pc := 27) cx en dX9_laysAside_27 hf
set_option maxHeartbeats 4000000 in
set_option maxRecDepth 100000 in
theorem c_X9_laysAside {l : Launch} {w : Wp} {L : Ly} {a0 : Nat} {M : Mm} {R0 : Int32 × Mm} (h0 : LTramWiresModel w L (a0)) (hf : f_X9_laysAside a0 M = some R0) : CT l w L yX9_laysAside cX9_laysAside 2 none 0 [.ref a0] M R0 := by
  unfold f_X9_laysAside at hf
  refine CT_of pn_X9 (Nat.le_of_ble_eq_true rfl) (fun E cx en => ?_)
  have cx : Ok w L E RX9 cX9_laysAside 2 0 := cx
  show G l w L E M [(0, .ref a0)] 0 []
  refine g_iconst (pc := 0) (v := 0) cx dX9_laysAside_0 (by decide) ?_
  refine g_istore_n (pc := 1) cx [(1, .int 0), (0, .ref a0)] dX9_laysAside_1 rfl (by decide) rfl ?_
  refine g_sub [1, 0] [(0, .ref a0), (1, .int 0)] rfl ?_
  exact w_X9_laysAside_2 cx en h0 FU hf
/-! X9_bringsBack -/
def l_X9_bringsBack_2 (a0 : Nat) : Nat → Mm → Int32 → OR
  | 0, _, _ => none
  | k + 1, M, x1 => if x1 < 233 then ckd x1 233 (ckd x1 233 (bnd (mst M (a0 + 1) (ix x1) (M (a0 + 3) (ix x1))) fun M1 => l_X9_bringsBack_2 a0 k M1 (x1 + 1))) else some (0, M)
def f_X9_bringsBack (a0 : Nat) (M : Mm) : OR := l_X9_bringsBack_2 a0 FU M 0
set_option maxHeartbeats 4000000 in
set_option maxRecDepth 100000 in
theorem w_X9_bringsBack_2 {l : Launch} {w : Wp} {L : Ly} {E : Cx} {a0 : Nat} {R0 : Int32 × Mm} (cx : Ok w L E RX9 cX9_bringsBack 2 0) (en : En w L E none R0) (h0 : LTramWiresModel w L (a0)) : ∀ (k : Nat) {M : Mm} {x1 : Int32}, l_X9_bringsBack_2 a0 k M x1 = some R0 → G l w L E M [(0, .ref a0), (1, .int x1)] 2 [] := by
  intro k
  induction k with
  | zero =>
    intro M x1 hf
    exact absurd hf (by simp [l_X9_bringsBack_2])
  | succ k ih =>
    intro M x1 hf
    unfold l_X9_bringsBack_2 at hf
    refine g_iload_n (pc := 2) cx dX9_bringsBack_2 rfl 1 rfl ?_
    refine g_sipush (pc := 3) (v := 233) cx dX9_bringsBack_3 (by decide) ?_
    refine g_icmp_ge (pc := 6) (tgt := 27) cx dX9_bringsBack_6 rfl hf (fun hf => ?_) (fun hf => ?_)
    · refine g_aload_n (pc := 9) cx dX9_bringsBack_9 rfl 0 rfl ?_
      refine fg_X9_7 (pc := 10) cx dX9_bringsBack_10 h0 ?_
      refine g_iload_n (pc := 13) cx dX9_bringsBack_13 rfl 1 rfl ?_
      refine g_aload_n (pc := 14) cx dX9_bringsBack_14 rfl 0 rfl ?_
      refine fg_X9_16 (pc := 15) cx dX9_bringsBack_15 h0 ?_
      refine g_iload_n (pc := 18) cx dX9_bringsBack_18 rfl 1 rfl ?_
      refine g_iald (pc := 19) cx (LTramWiresModel_aside h0) dX9_bringsBack_19 hf (fun hf => ?_)
      refine g_iast (pc := 20) cx (LTramWiresModel_st h0) dX9_bringsBack_20 hf (fun M1 hf => ?_)
      refine g_iinc (pc := 21) cx [(1, .int (x1 + 1)), (0, .ref a0)] dX9_bringsBack_21 1 rfl rfl (by decide) rfl ?_
      refine g_goto (pc := 24) (tgt := 2) cx dX9_bringsBack_24 rfl ?_
      refine g_sub [1, 0] [(0, .ref a0), (1, .int (x1 + 1))] rfl ?_
      exact ih hf
    · exact g_vret (pc := 27) cx en dX9_bringsBack_27 hf
set_option maxHeartbeats 4000000 in
set_option maxRecDepth 100000 in
theorem c_X9_bringsBack {l : Launch} {w : Wp} {L : Ly} {a0 : Nat} {M : Mm} {R0 : Int32 × Mm} (h0 : LTramWiresModel w L (a0)) (hf : f_X9_bringsBack a0 M = some R0) : CT l w L yX9_bringsBack cX9_bringsBack 2 none 0 [.ref a0] M R0 := by
  unfold f_X9_bringsBack at hf
  refine CT_of pn_X9 (Nat.le_of_ble_eq_true rfl) (fun E cx en => ?_)
  have cx : Ok w L E RX9 cX9_bringsBack 2 0 := cx
  show G l w L E M [(0, .ref a0)] 0 []
  refine g_iconst (pc := 0) (v := 0) cx dX9_bringsBack_0 (by decide) ?_
  refine g_istore_n (pc := 1) cx [(1, .int 0), (0, .ref a0)] dX9_bringsBack_1 rfl (by decide) rfl ?_
  refine g_sub [1, 0] [(0, .ref a0), (1, .int 0)] rfl ?_
  exact w_X9_bringsBack_2 cx en h0 FU hf
/-! X9_closedOnes -/
def l_X9_closedOnes_4 (a0 : Nat) : Nat → Mm → Int32 → Int32 → OR
  | 0, _, _, _ => none
  | k + 1, M, x1, x2 => ckd 1 233 (if x2 < (M (a0 + 1) (ix 1)) then obn (f_X9_at a0 M x2 2) fun q3 M1 => (bnd (x1 ||| (q3 <<< (x2 &&& 31))) fun v4 => l_X9_closedOnes_4 a0 k M1 v4 (x2 + 1)) else some (x1, M))
def f_X9_closedOnes (a0 : Nat) (M : Mm) : OR := l_X9_closedOnes_4 a0 FU M 0 0
set_option maxHeartbeats 4000000 in
set_option maxRecDepth 100000 in
theorem w_X9_closedOnes_4 {l : Launch} {w : Wp} {L : Ly} {E : Cx} {a0 : Nat} {R0 : Int32 × Mm} (cx : Ok w L E RX9 cX9_closedOnes 3 1) (en : En w L E (some .int) R0) (h0 : LTramWiresModel w L (a0)) : ∀ (k : Nat) {M : Mm} {x1 x2 : Int32}, l_X9_closedOnes_4 a0 k M x1 x2 = some R0 → G l w L E M [(0, .ref a0), (1, .int x1), (2, .int x2)] 4 [] := by
  intro k
  induction k with
  | zero =>
    intro M x1 x2 hf
    exact absurd hf (by simp [l_X9_closedOnes_4])
  | succ k ih =>
    intro M x1 x2 hf
    unfold l_X9_closedOnes_4 at hf
    refine g_iload_n (pc := 4) cx dX9_closedOnes_4 rfl 2 rfl ?_
    refine g_aload_n (pc := 5) cx dX9_closedOnes_5 rfl 0 rfl ?_
    refine fg_X9_7 (pc := 6) cx dX9_closedOnes_6 h0 ?_
    refine g_iconst (pc := 9) (v := 1) cx dX9_closedOnes_9 (by decide) ?_
    refine g_iald (pc := 10) cx (LTramWiresModel_st h0) dX9_closedOnes_10 hf (fun hf => ?_)
    refine g_icmp_ge (pc := 11) (tgt := 31) cx dX9_closedOnes_11 rfl hf (fun hf => ?_) (fun hf => ?_)
    · refine g_iload_n (pc := 14) cx dX9_closedOnes_14 rfl 1 rfl ?_
      refine g_aload_n (pc := 15) cx dX9_closedOnes_15 rfl 0 rfl ?_
      refine g_iload_n (pc := 16) cx dX9_closedOnes_16 rfl 2 rfl ?_
      refine g_iconst (pc := 17) (v := 2) cx dX9_closedOnes_17 (by decide) ?_
      obtain ⟨q3, M1, hc2, hf⟩ := obn_some2 hf
      refine g_callVi (pc := 18) [.int x2, .int 2] [.int x1] cx lk_X9_33 vw_X9 (LTramWiresModel_o h0) (by decide) (c_X9_at h0 hc2) dX9_closedOnes_18 (Nat.le_of_ble_eq_true rfl) ?_
      refine g_iload_n (pc := 21) cx dX9_closedOnes_21 rfl 2 rfl ?_
      refine g_ishl (pc := 22) cx dX9_closedOnes_22 ?_
      refine g_ior (pc := 23) cx dX9_closedOnes_23 ?_
      refine g_nm hf (fun v4 hf => ?_)
      refine g_istore_n (pc := 24) cx [(1, .int v4), (0, .ref a0), (2, .int x2)] dX9_closedOnes_24 rfl (by decide) rfl ?_
      refine g_iinc (pc := 25) cx [(2, .int (x2 + 1)), (1, .int v4), (0, .ref a0)] dX9_closedOnes_25 2 rfl rfl (by decide) rfl ?_
      refine g_goto (pc := 28) (tgt := 4) cx dX9_closedOnes_28 rfl ?_
      refine g_sub [2, 1, 0] [(0, .ref a0), (1, .int v4), (2, .int (x2 + 1))] rfl ?_
      exact ih hf
    · refine g_iload_n (pc := 31) cx dX9_closedOnes_31 rfl 1 rfl ?_
      exact g_iret (pc := 32) cx en dX9_closedOnes_32 rfl hf
set_option maxHeartbeats 4000000 in
set_option maxRecDepth 100000 in
theorem c_X9_closedOnes {l : Launch} {w : Wp} {L : Ly} {a0 : Nat} {M : Mm} {R0 : Int32 × Mm} (h0 : LTramWiresModel w L (a0)) (hf : f_X9_closedOnes a0 M = some R0) : CT l w L yX9_closedOnes cX9_closedOnes 3 (some .int) 1 [.ref a0] M R0 := by
  unfold f_X9_closedOnes at hf
  refine CT_of pn_X9 (Nat.le_of_ble_eq_true rfl) (fun E cx en => ?_)
  have cx : Ok w L E RX9 cX9_closedOnes 3 1 := cx
  show G l w L E M [(0, .ref a0)] 0 []
  refine g_iconst (pc := 0) (v := 0) cx dX9_closedOnes_0 (by decide) ?_
  refine g_istore_n (pc := 1) cx [(1, .int 0), (0, .ref a0)] dX9_closedOnes_1 rfl (by decide) rfl ?_
  refine g_iconst (pc := 2) (v := 0) cx dX9_closedOnes_2 (by decide) ?_
  refine g_istore_n (pc := 3) cx [(2, .int 0), (1, .int 0), (0, .ref a0)] dX9_closedOnes_3 rfl (by decide) rfl ?_
  refine g_sub [2, 1, 0] [(0, .ref a0), (1, .int 0), (2, .int 0)] rfl ?_
  exact w_X9_closedOnes_4 cx en h0 FU hf
/-! X9_onOnes -/
def b_X9_onOnes_32 (a0 : Nat) (rc4 : Mm → Int32 → Int32 → OR) (M : Mm) (x2 s0 s1 : Int32) : OR := bnd (s0 ||| s1) fun v1 => rc4 M v1 (x2 + 1)
def l_X9_onOnes_4 (a0 : Nat) : Nat → Mm → Int32 → Int32 → OR
  | 0, _, _, _ => none
  | k + 1, M, x1, x2 => ckd 0 233 (if x2 < (M (a0 + 1) (ix 0)) then obn (f_X9_of a0 M x2 1) fun q3 M1 => (if q3 = 2 then b_X9_onOnes_32 a0 (l_X9_onOnes_4 a0 k) M1 x2 x1 (1 <<< (x2 &&& 31)) else b_X9_onOnes_32 a0 (l_X9_onOnes_4 a0 k) M1 x2 x1 0) else some (x1, M))
def f_X9_onOnes (a0 : Nat) (M : Mm) : OR := l_X9_onOnes_4 a0 FU M 0 0
set_option maxHeartbeats 4000000 in
set_option maxRecDepth 100000 in
theorem w_X9_onOnes_32 {l : Launch} {w : Wp} {L : Ly} {E : Cx} {a0 : Nat} {rc4 : Mm → Int32 → Int32 → OR} {x2 s0 s1 : Int32} {R0 : Int32 × Mm} (cx : Ok w L E RX9 cX9_onOnes 3 1) (en : En w L E (some .int) R0) (h0 : LTramWiresModel w L (a0)) (hrc4 : ∀ (M : Mm) (x1 x2 : Int32), rc4 M x1 x2 = some R0 → G l w L E M [(0, .ref a0), (1, .int x1), (2, .int x2)] 4 []) {M : Mm} (hf : b_X9_onOnes_32 a0 rc4 M x2 s0 s1 = some R0) : G l w L E M [(0, .ref a0), (2, .int x2)] 32 [.int s1, .int s0] := by
  unfold b_X9_onOnes_32 at hf
  refine g_ior (pc := 32) cx dX9_onOnes_32 ?_
  refine g_nm hf (fun v1 hf => ?_)
  refine g_istore_n (pc := 33) cx [(1, .int v1), (0, .ref a0), (2, .int x2)] dX9_onOnes_33 rfl (by decide) rfl ?_
  refine g_iinc (pc := 34) cx [(2, .int (x2 + 1)), (1, .int v1), (0, .ref a0)] dX9_onOnes_34 2 rfl rfl (by decide) rfl ?_
  refine g_goto (pc := 37) (tgt := 4) cx dX9_onOnes_37 rfl ?_
  refine g_sub [2, 1, 0] [(0, .ref a0), (1, .int v1), (2, .int (x2 + 1))] rfl ?_
  exact hrc4 _ _ _ hf
set_option maxHeartbeats 4000000 in
set_option maxRecDepth 100000 in
theorem w_X9_onOnes_4 {l : Launch} {w : Wp} {L : Ly} {E : Cx} {a0 : Nat} {R0 : Int32 × Mm} (cx : Ok w L E RX9 cX9_onOnes 3 1) (en : En w L E (some .int) R0) (h0 : LTramWiresModel w L (a0)) : ∀ (k : Nat) {M : Mm} {x1 x2 : Int32}, l_X9_onOnes_4 a0 k M x1 x2 = some R0 → G l w L E M [(0, .ref a0), (1, .int x1), (2, .int x2)] 4 [] := by
  intro k
  induction k with
  | zero =>
    intro M x1 x2 hf
    exact absurd hf (by simp [l_X9_onOnes_4])
  | succ k ih =>
    intro M x1 x2 hf
    unfold l_X9_onOnes_4 at hf
    refine g_iload_n (pc := 4) cx dX9_onOnes_4 rfl 2 rfl ?_
    refine g_aload_n (pc := 5) cx dX9_onOnes_5 rfl 0 rfl ?_
    refine fg_X9_7 (pc := 6) cx dX9_onOnes_6 h0 ?_
    refine g_iconst (pc := 9) (v := 0) cx dX9_onOnes_9 (by decide) ?_
    refine g_iald (pc := 10) cx (LTramWiresModel_st h0) dX9_onOnes_10 hf (fun hf => ?_)
    refine g_icmp_ge (pc := 11) (tgt := 40) cx dX9_onOnes_11 rfl hf (fun hf => ?_) (fun hf => ?_)
    · refine g_iload_n (pc := 14) cx dX9_onOnes_14 rfl 1 rfl ?_
      refine g_aload_n (pc := 15) cx dX9_onOnes_15 rfl 0 rfl ?_
      refine g_iload_n (pc := 16) cx dX9_onOnes_16 rfl 2 rfl ?_
      refine g_iconst (pc := 17) (v := 1) cx dX9_onOnes_17 (by decide) ?_
      obtain ⟨q3, M1, hc2, hf⟩ := obn_some2 hf
      refine g_callVi (pc := 18) [.int x2, .int 1] [.int x1] cx lk_X9_37 vw_X9 (LTramWiresModel_o h0) (by decide) (c_X9_of h0 hc2) dX9_onOnes_18 (Nat.le_of_ble_eq_true rfl) ?_
      refine g_iconst (pc := 21) (v := 2) cx dX9_onOnes_21 (by decide) ?_
      refine g_icmp_ne (pc := 22) (tgt := 31) cx dX9_onOnes_22 rfl hf (fun hf => ?_) (fun hf => ?_)
      · refine g_iconst (pc := 25) (v := 1) cx dX9_onOnes_25 (by decide) ?_
        refine g_iload_n (pc := 26) cx dX9_onOnes_26 rfl 2 rfl ?_
        refine g_ishl (pc := 27) cx dX9_onOnes_27 ?_
        refine g_goto (pc := 28) (tgt := 32) cx dX9_onOnes_28 rfl ?_
        refine g_sub [0, 2] [(0, .ref a0), (2, .int x2)] rfl ?_
        exact w_X9_onOnes_32 cx en h0 (fun _ _ _ hf => ih hf) hf
      · refine g_iconst (pc := 31) (v := 0) cx dX9_onOnes_31 (by decide) ?_
        refine g_sub [0, 2] [(0, .ref a0), (2, .int x2)] rfl ?_
        exact w_X9_onOnes_32 cx en h0 (fun _ _ _ hf => ih hf) hf
    · refine g_iload_n (pc := 40) cx dX9_onOnes_40 rfl 1 rfl ?_
      exact g_iret (pc := 41) cx en dX9_onOnes_41 rfl hf
set_option maxHeartbeats 4000000 in
set_option maxRecDepth 100000 in
theorem c_X9_onOnes {l : Launch} {w : Wp} {L : Ly} {a0 : Nat} {M : Mm} {R0 : Int32 × Mm} (h0 : LTramWiresModel w L (a0)) (hf : f_X9_onOnes a0 M = some R0) : CT l w L yX9_onOnes cX9_onOnes 3 (some .int) 1 [.ref a0] M R0 := by
  unfold f_X9_onOnes at hf
  refine CT_of pn_X9 (Nat.le_of_ble_eq_true rfl) (fun E cx en => ?_)
  have cx : Ok w L E RX9 cX9_onOnes 3 1 := cx
  show G l w L E M [(0, .ref a0)] 0 []
  refine g_iconst (pc := 0) (v := 0) cx dX9_onOnes_0 (by decide) ?_
  refine g_istore_n (pc := 1) cx [(1, .int 0), (0, .ref a0)] dX9_onOnes_1 rfl (by decide) rfl ?_
  refine g_iconst (pc := 2) (v := 0) cx dX9_onOnes_2 (by decide) ?_
  refine g_istore_n (pc := 3) cx [(2, .int 0), (1, .int 0), (0, .ref a0)] dX9_onOnes_3 rfl (by decide) rfl ?_
  refine g_sub [2, 1, 0] [(0, .ref a0), (1, .int 0), (2, .int 0)] rfl ?_
  exact w_X9_onOnes_4 cx en h0 FU hf
/-! X9_with -/
def b_X9_with_31 (a0 : Nat) (rc4 : Mm → Int32 → Int32 → OR) (M : Mm) (x1 x3 s0 s1 : Int32) : OR := bnd (s0 ||| s1) fun v1 => rc4 M v1 (x3 + 1)
def l_X9_with_4 (a0 : Nat) (x1 : Int32) : Nat → Mm → Int32 → Int32 → OR
  | 0, _, _, _ => none
  | k + 1, M, x2, x3 => ckd 0 233 (if x3 < (M (a0 + 1) (ix 0)) then obn (f_X9_of a0 M x3 x1) fun q3 M1 => (if 0 < q3 then b_X9_with_31 a0 (l_X9_with_4 a0 x1 k) M1 x1 x3 x2 (1 <<< (x3 &&& 31)) else b_X9_with_31 a0 (l_X9_with_4 a0 x1 k) M1 x1 x3 x2 0) else some (x2, M))
def f_X9_with (a0 : Nat) (M : Mm) (x1 : Int32) : OR := l_X9_with_4 a0 x1 FU M 0 0
set_option maxHeartbeats 4000000 in
set_option maxRecDepth 100000 in
theorem w_X9_with_31 {l : Launch} {w : Wp} {L : Ly} {E : Cx} {a0 : Nat} {rc4 : Mm → Int32 → Int32 → OR} {x1 x3 s0 s1 : Int32} {R0 : Int32 × Mm} (cx : Ok w L E RX9 cX9_with 4 1) (en : En w L E (some .int) R0) (h0 : LTramWiresModel w L (a0)) (hrc4 : ∀ (M : Mm) (x2 x3 : Int32), rc4 M x2 x3 = some R0 → G l w L E M [(0, .ref a0), (1, .int x1), (2, .int x2), (3, .int x3)] 4 []) {M : Mm} (hf : b_X9_with_31 a0 rc4 M x1 x3 s0 s1 = some R0) : G l w L E M [(0, .ref a0), (1, .int x1), (3, .int x3)] 31 [.int s1, .int s0] := by
  unfold b_X9_with_31 at hf
  refine g_ior (pc := 31) cx dX9_with_31 ?_
  refine g_nm hf (fun v1 hf => ?_)
  refine g_istore_n (pc := 32) cx [(2, .int v1), (0, .ref a0), (1, .int x1), (3, .int x3)] dX9_with_32 rfl (by decide) rfl ?_
  refine g_iinc (pc := 33) cx [(3, .int (x3 + 1)), (2, .int v1), (0, .ref a0), (1, .int x1)] dX9_with_33 3 rfl rfl (by decide) rfl ?_
  refine g_goto (pc := 36) (tgt := 4) cx dX9_with_36 rfl ?_
  refine g_sub [2, 3, 1, 0] [(0, .ref a0), (1, .int x1), (2, .int v1), (3, .int (x3 + 1))] rfl ?_
  exact hrc4 _ _ _ hf
set_option maxHeartbeats 4000000 in
set_option maxRecDepth 100000 in
theorem w_X9_with_4 {l : Launch} {w : Wp} {L : Ly} {E : Cx} {a0 : Nat} {x1 : Int32} {R0 : Int32 × Mm} (cx : Ok w L E RX9 cX9_with 4 1) (en : En w L E (some .int) R0) (h0 : LTramWiresModel w L (a0)) : ∀ (k : Nat) {M : Mm} {x2 x3 : Int32}, l_X9_with_4 a0 x1 k M x2 x3 = some R0 → G l w L E M [(0, .ref a0), (1, .int x1), (2, .int x2), (3, .int x3)] 4 [] := by
  intro k
  induction k with
  | zero =>
    intro M x2 x3 hf
    exact absurd hf (by simp [l_X9_with_4])
  | succ k ih =>
    intro M x2 x3 hf
    unfold l_X9_with_4 at hf
    refine g_iload_n (pc := 4) cx dX9_with_4 rfl 3 rfl ?_
    refine g_aload_n (pc := 5) cx dX9_with_5 rfl 0 rfl ?_
    refine fg_X9_7 (pc := 6) cx dX9_with_6 h0 ?_
    refine g_iconst (pc := 9) (v := 0) cx dX9_with_9 (by decide) ?_
    refine g_iald (pc := 10) cx (LTramWiresModel_st h0) dX9_with_10 hf (fun hf => ?_)
    refine g_icmp_ge (pc := 11) (tgt := 39) cx dX9_with_11 rfl hf (fun hf => ?_) (fun hf => ?_)
    · refine g_iload_n (pc := 14) cx dX9_with_14 rfl 2 rfl ?_
      refine g_aload_n (pc := 15) cx dX9_with_15 rfl 0 rfl ?_
      refine g_iload_n (pc := 16) cx dX9_with_16 rfl 3 rfl ?_
      refine g_iload_n (pc := 17) cx dX9_with_17 rfl 1 rfl ?_
      obtain ⟨q3, M1, hc2, hf⟩ := obn_some2 hf
      refine g_callVi (pc := 18) [.int x3, .int x1] [.int x2] cx lk_X9_37 vw_X9 (LTramWiresModel_o h0) (by decide) (c_X9_of h0 hc2) dX9_with_18 (Nat.le_of_ble_eq_true rfl) ?_
      refine g_if_le (pc := 21) (tgt := 30) cx dX9_with_21 rfl hf (fun hf => ?_) (fun hf => ?_)
      · refine g_iconst (pc := 24) (v := 1) cx dX9_with_24 (by decide) ?_
        refine g_iload_n (pc := 25) cx dX9_with_25 rfl 3 rfl ?_
        refine g_ishl (pc := 26) cx dX9_with_26 ?_
        refine g_goto (pc := 27) (tgt := 31) cx dX9_with_27 rfl ?_
        refine g_sub [0, 1, 3] [(0, .ref a0), (1, .int x1), (3, .int x3)] rfl ?_
        exact w_X9_with_31 cx en h0 (fun _ _ _ hf => ih hf) hf
      · refine g_iconst (pc := 30) (v := 0) cx dX9_with_30 (by decide) ?_
        refine g_sub [0, 1, 3] [(0, .ref a0), (1, .int x1), (3, .int x3)] rfl ?_
        exact w_X9_with_31 cx en h0 (fun _ _ _ hf => ih hf) hf
    · refine g_iload_n (pc := 39) cx dX9_with_39 rfl 2 rfl ?_
      exact g_iret (pc := 40) cx en dX9_with_40 rfl hf
set_option maxHeartbeats 4000000 in
set_option maxRecDepth 100000 in
theorem c_X9_with {l : Launch} {w : Wp} {L : Ly} {a0 : Nat} {M : Mm} {x1 : Int32} {R0 : Int32 × Mm} (h0 : LTramWiresModel w L (a0)) (hf : f_X9_with a0 M x1 = some R0) : CT l w L yX9_with cX9_with 4 (some .int) 1 [.ref a0, .int x1] M R0 := by
  unfold f_X9_with at hf
  refine CT_of pn_X9 (Nat.le_of_ble_eq_true rfl) (fun E cx en => ?_)
  have cx : Ok w L E RX9 cX9_with 4 1 := cx
  show G l w L E M [(0, .ref a0), (1, .int x1)] 0 []
  refine g_iconst (pc := 0) (v := 0) cx dX9_with_0 (by decide) ?_
  refine g_istore_n (pc := 1) cx [(2, .int 0), (0, .ref a0), (1, .int x1)] dX9_with_1 rfl (by decide) rfl ?_
  refine g_iconst (pc := 2) (v := 0) cx dX9_with_2 (by decide) ?_
  refine g_istore_n (pc := 3) cx [(3, .int 0), (2, .int 0), (0, .ref a0), (1, .int x1)] dX9_with_3 rfl (by decide) rfl ?_
  refine g_sub [2, 3, 1, 0] [(0, .ref a0), (1, .int x1), (2, .int 0), (3, .int 0)] rfl ?_
  exact w_X9_with_4 cx en h0 FU hf
/-! X9_trams -/
def f_X9_trams (a0 : Nat) (M : Mm) : OR := ckd 0 233 (obn (f_X9_with a0 M 2) fun q3 M1 => (some ((((1 <<< ((M (a0 + 1) (ix 0)) &&& 31)) - 1) &&& (q3 ^^^ (-1))), M1)))
set_option maxHeartbeats 4000000 in
set_option maxRecDepth 100000 in
theorem c_X9_trams {l : Launch} {w : Wp} {L : Ly} {a0 : Nat} {M : Mm} {R0 : Int32 × Mm} (h0 : LTramWiresModel w L (a0)) (hf : f_X9_trams a0 M = some R0) : CT l w L yX9_trams cX9_trams 1 (some .int) 2 [.ref a0] M R0 := by
  unfold f_X9_trams at hf
  refine CT_of pn_X9 (Nat.le_of_ble_eq_true rfl) (fun E cx en => ?_)
  have cx : Ok w L E RX9 cX9_trams 1 2 := cx
  show G l w L E M [(0, .ref a0)] 0 []
  refine g_iconst (pc := 0) (v := 1) cx dX9_trams_0 (by decide) ?_
  refine g_aload_n (pc := 1) cx dX9_trams_1 rfl 0 rfl ?_
  refine fg_X9_7 (pc := 2) cx dX9_trams_2 h0 ?_
  refine g_iconst (pc := 5) (v := 0) cx dX9_trams_5 (by decide) ?_
  refine g_iald (pc := 6) cx (LTramWiresModel_st h0) dX9_trams_6 hf (fun hf => ?_)
  refine g_ishl (pc := 7) cx dX9_trams_7 ?_
  refine g_iconst (pc := 8) (v := 1) cx dX9_trams_8 (by decide) ?_
  refine g_isub (pc := 9) cx dX9_trams_9 ?_
  refine g_aload_n (pc := 10) cx dX9_trams_10 rfl 0 rfl ?_
  refine g_iconst (pc := 11) (v := 2) cx dX9_trams_11 (by decide) ?_
  obtain ⟨q3, M1, hc2, hf⟩ := obn_some2 hf
  refine g_callVi (pc := 12) [.int 2] [.int ((1 <<< ((M (a0 + 1) (ix 0)) &&& 31)) - 1)] cx lk_X9_40 vw_X9 (LTramWiresModel_o h0) (by decide) (c_X9_with h0 hc2) dX9_trams_12 (Nat.le_of_ble_eq_true rfl) ?_
  refine g_iconst (pc := 15) (v := (-1)) cx dX9_trams_15 (by decide) ?_
  refine g_ixor (pc := 16) cx dX9_trams_16 ?_
  refine g_iand (pc := 17) cx dX9_trams_17 ?_
  exact g_iret (pc := 18) cx en dX9_trams_18 rfl hf
/-! X9_hanging -/
def b_X9_hanging_71 (a0 : Nat) (rc5 : Mm → Int32 → Int32 → OR) (rc15 : Mm → Int32 → Int32 → OR) (M : Mm) (x2 x4 x5 s0 s1 : Int32) : OR := bnd (s0 ||| s1) fun v1 => rc15 M v1 (x5 + 1)
def b_X9_hanging_70 (a0 : Nat) (rc5 : Mm → Int32 → Int32 → OR) (rc15 : Mm → Int32 → Int32 → OR) (M : Mm) (x2 x4 x5 s0 : Int32) : OR := b_X9_hanging_71 a0 rc5 rc15 M x2 x4 x5 s0 0
def l_X9_hanging_15 (a0 : Nat) (rc5 : Mm → Int32 → Int32 → OR) (x2 x4 : Int32) : Nat → Mm → Int32 → Int32 → OR
  | 0, _, _, _ => none
  | k + 1, M, x3, x5 => ckd 1 233 (if x5 < (M (a0 + 1) (ix 1)) then obn (f_X9_at a0 M x5 0) fun q3 M1 => (obn (f_X9_at a0 M1 x5 1) fun q6 M4 => (bnd ((1 <<< (q3 &&& 31)) ||| (1 <<< (q6 &&& 31))) fun v7 => if ((x2 >>> (x5 &&& 31)) &&& 1) = 1 then if (x3 &&& v7) = 0 then b_X9_hanging_70 a0 rc5 (l_X9_hanging_15 a0 rc5 x2 x4 k) M4 x2 x4 x5 x3 else b_X9_hanging_71 a0 rc5 (l_X9_hanging_15 a0 rc5 x2 x4 k) M4 x2 x4 x5 x3 v7 else b_X9_hanging_70 a0 rc5 (l_X9_hanging_15 a0 rc5 x2 x4 k) M4 x2 x4 x5 x3)) else rc5 M x3 (x4 + 1))
def l_X9_hanging_5 (a0 : Nat) (x2 : Int32) : Nat → Mm → Int32 → Int32 → OR
  | 0, _, _, _ => none
  | k + 1, M, x3, x4 => if x4 < 10 then l_X9_hanging_15 a0 (l_X9_hanging_5 a0 x2 k) x2 x4 FU M x3 0 else some (x3, M)
def f_X9_hanging (a0 : Nat) (M : Mm) (x1 x2 : Int32) : OR := l_X9_hanging_5 a0 x2 FU M x1 0
set_option maxHeartbeats 4000000 in
set_option maxRecDepth 100000 in
theorem w_X9_hanging_71 {l : Launch} {w : Wp} {L : Ly} {E : Cx} {a0 : Nat} {rc5 : Mm → Int32 → Int32 → OR} {rc15 : Mm → Int32 → Int32 → OR} {x2 x4 x5 s0 s1 : Int32} {R0 : Int32 × Mm} (cx : Ok w L E RX9 cX9_hanging 7 1) (en : En w L E (some .int) R0) (h0 : LTramWiresModel w L (a0)) (hrc5 : ∀ (M : Mm) (x3 x4 : Int32), rc5 M x3 x4 = some R0 → G l w L E M [(0, .ref a0), (2, .int x2), (3, .int x3), (4, .int x4)] 5 []) (hrc15 : ∀ (M : Mm) (x3 x5 : Int32), rc15 M x3 x5 = some R0 → G l w L E M [(0, .ref a0), (2, .int x2), (3, .int x3), (4, .int x4), (5, .int x5)] 15 []) {M : Mm} (hf : b_X9_hanging_71 a0 rc5 rc15 M x2 x4 x5 s0 s1 = some R0) : G l w L E M [(0, .ref a0), (2, .int x2), (4, .int x4), (5, .int x5)] 71 [.int s1, .int s0] := by
  unfold b_X9_hanging_71 at hf
  refine g_ior (pc := 71) cx dX9_hanging_71 ?_
  refine g_nm hf (fun v1 hf => ?_)
  refine g_istore_n (pc := 72) cx [(3, .int v1), (0, .ref a0), (2, .int x2), (4, .int x4), (5, .int x5)] dX9_hanging_72 rfl (by decide) rfl ?_
  refine g_iinc (pc := 73) cx [(5, .int (x5 + 1)), (3, .int v1), (0, .ref a0), (2, .int x2), (4, .int x4)] dX9_hanging_73 4 rfl rfl (by decide) rfl ?_
  refine g_goto (pc := 76) (tgt := 15) cx dX9_hanging_76 rfl ?_
  refine g_sub [2, 3, 1, 4, 0] [(0, .ref a0), (2, .int x2), (3, .int v1), (4, .int x4), (5, .int (x5 + 1))] rfl ?_
  exact hrc15 _ _ _ hf
set_option maxHeartbeats 4000000 in
set_option maxRecDepth 100000 in
theorem w_X9_hanging_70 {l : Launch} {w : Wp} {L : Ly} {E : Cx} {a0 : Nat} {rc5 : Mm → Int32 → Int32 → OR} {rc15 : Mm → Int32 → Int32 → OR} {x2 x4 x5 s0 : Int32} {R0 : Int32 × Mm} (cx : Ok w L E RX9 cX9_hanging 7 1) (en : En w L E (some .int) R0) (h0 : LTramWiresModel w L (a0)) (hrc5 : ∀ (M : Mm) (x3 x4 : Int32), rc5 M x3 x4 = some R0 → G l w L E M [(0, .ref a0), (2, .int x2), (3, .int x3), (4, .int x4)] 5 []) (hrc15 : ∀ (M : Mm) (x3 x5 : Int32), rc15 M x3 x5 = some R0 → G l w L E M [(0, .ref a0), (2, .int x2), (3, .int x3), (4, .int x4), (5, .int x5)] 15 []) {M : Mm} (hf : b_X9_hanging_70 a0 rc5 rc15 M x2 x4 x5 s0 = some R0) : G l w L E M [(0, .ref a0), (2, .int x2), (4, .int x4), (5, .int x5)] 70 [.int s0] := by
  unfold b_X9_hanging_70 at hf
  refine g_iconst (pc := 70) (v := 0) cx dX9_hanging_70 (by decide) ?_
  exact w_X9_hanging_71 cx en h0 hrc5 hrc15 hf
set_option maxHeartbeats 4000000 in
set_option maxRecDepth 100000 in
theorem w_X9_hanging_15 {l : Launch} {w : Wp} {L : Ly} {E : Cx} {a0 : Nat} {rc5 : Mm → Int32 → Int32 → OR} {x2 x4 : Int32} {R0 : Int32 × Mm} (cx : Ok w L E RX9 cX9_hanging 7 1) (en : En w L E (some .int) R0) (h0 : LTramWiresModel w L (a0)) (hrc5 : ∀ (M : Mm) (x3 x4 : Int32), rc5 M x3 x4 = some R0 → G l w L E M [(0, .ref a0), (2, .int x2), (3, .int x3), (4, .int x4)] 5 []) : ∀ (k : Nat) {M : Mm} {x3 x5 : Int32}, l_X9_hanging_15 a0 rc5 x2 x4 k M x3 x5 = some R0 → G l w L E M [(0, .ref a0), (2, .int x2), (3, .int x3), (4, .int x4), (5, .int x5)] 15 [] := by
  intro k
  induction k with
  | zero =>
    intro M x3 x5 hf
    exact absurd hf (by simp [l_X9_hanging_15])
  | succ k ih =>
    intro M x3 x5 hf
    unfold l_X9_hanging_15 at hf
    refine g_iload (pc := 15) cx dX9_hanging_15 4 rfl ?_
    refine g_aload_n (pc := 17) cx dX9_hanging_17 rfl 0 rfl ?_
    refine fg_X9_7 (pc := 18) cx dX9_hanging_18 h0 ?_
    refine g_iconst (pc := 21) (v := 1) cx dX9_hanging_21 (by decide) ?_
    refine g_iald (pc := 22) cx (LTramWiresModel_st h0) dX9_hanging_22 hf (fun hf => ?_)
    refine g_icmp_ge (pc := 23) (tgt := 79) cx dX9_hanging_23 rfl hf (fun hf => ?_) (fun hf => ?_)
    · refine g_iconst (pc := 26) (v := 1) cx dX9_hanging_26 (by decide) ?_
      refine g_aload_n (pc := 27) cx dX9_hanging_27 rfl 0 rfl ?_
      refine g_iload (pc := 28) cx dX9_hanging_28 4 rfl ?_
      refine g_iconst (pc := 30) (v := 0) cx dX9_hanging_30 (by decide) ?_
      obtain ⟨q3, M1, hc2, hf⟩ := obn_some2 hf
      refine g_callVi (pc := 31) [.int x5, .int 0] [.int 1] cx lk_X9_33 vw_X9 (LTramWiresModel_o h0) (by decide) (c_X9_at h0 hc2) dX9_hanging_31 (Nat.le_of_ble_eq_true rfl) ?_
      refine g_ishl (pc := 34) cx dX9_hanging_34 ?_
      refine g_iconst (pc := 35) (v := 1) cx dX9_hanging_35 (by decide) ?_
      refine g_aload_n (pc := 36) cx dX9_hanging_36 rfl 0 rfl ?_
      refine g_iload (pc := 37) cx dX9_hanging_37 4 rfl ?_
      refine g_iconst (pc := 39) (v := 1) cx dX9_hanging_39 (by decide) ?_
      obtain ⟨q6, M4, hc5, hf⟩ := obn_some2 hf
      refine g_callVi (pc := 40) [.int x5, .int 1] [.int 1, .int (1 <<< (q3 &&& 31))] cx lk_X9_33 vw_X9 (LTramWiresModel_o h0) (by decide) (c_X9_at h0 hc5) dX9_hanging_40 (Nat.le_of_ble_eq_true rfl) ?_
      refine g_ishl (pc := 43) cx dX9_hanging_43 ?_
      refine g_ior (pc := 44) cx dX9_hanging_44 ?_
      refine g_nm hf (fun v7 hf => ?_)
      refine g_istore (pc := 45) cx [(6, .int v7), (0, .ref a0), (2, .int x2), (3, .int x3), (4, .int x4), (5, .int x5)] dX9_hanging_45 (by decide) rfl ?_
      refine g_iload_n (pc := 47) cx dX9_hanging_47 rfl 3 rfl ?_
      refine g_iload_n (pc := 48) cx dX9_hanging_48 rfl 2 rfl ?_
      refine g_iload (pc := 49) cx dX9_hanging_49 5 rfl ?_
      refine g_ishr (pc := 51) cx dX9_hanging_51 ?_
      refine g_iconst (pc := 52) (v := 1) cx dX9_hanging_52 (by decide) ?_
      refine g_iand (pc := 53) cx dX9_hanging_53 ?_
      refine g_iconst (pc := 54) (v := 1) cx dX9_hanging_54 (by decide) ?_
      refine g_icmp_ne (pc := 55) (tgt := 70) cx dX9_hanging_55 rfl hf (fun hf => ?_) (fun hf => ?_)
      · refine g_iload_n (pc := 58) cx dX9_hanging_58 rfl 3 rfl ?_
        refine g_iload (pc := 59) cx dX9_hanging_59 0 rfl ?_
        refine g_iand (pc := 61) cx dX9_hanging_61 ?_
        refine g_if_eq (pc := 62) (tgt := 70) cx dX9_hanging_62 rfl hf (fun hf => ?_) (fun hf => ?_)
        · refine g_sub [1, 2, 4, 5] [(0, .ref a0), (2, .int x2), (4, .int x4), (5, .int x5)] rfl ?_
          exact w_X9_hanging_70 cx en h0 hrc5 (fun _ _ _ hf => ih hf) hf
        · refine g_iload (pc := 65) cx dX9_hanging_65 0 rfl ?_
          refine g_goto (pc := 67) (tgt := 71) cx dX9_hanging_67 rfl ?_
          refine g_sub [1, 2, 4, 5] [(0, .ref a0), (2, .int x2), (4, .int x4), (5, .int x5)] rfl ?_
          exact w_X9_hanging_71 cx en h0 hrc5 (fun _ _ _ hf => ih hf) hf
      · refine g_sub [1, 2, 4, 5] [(0, .ref a0), (2, .int x2), (4, .int x4), (5, .int x5)] rfl ?_
        exact w_X9_hanging_70 cx en h0 hrc5 (fun _ _ _ hf => ih hf) hf
    · refine g_iinc (pc := 79) cx [(4, .int (x4 + 1)), (0, .ref a0), (2, .int x2), (3, .int x3), (5, .int x5)] dX9_hanging_79 3 rfl rfl (by decide) rfl ?_
      refine g_goto (pc := 82) (tgt := 5) cx dX9_hanging_82 rfl ?_
      refine g_sub [1, 2, 3, 0] [(0, .ref a0), (2, .int x2), (3, .int x3), (4, .int (x4 + 1))] rfl ?_
      exact hrc5 _ _ _ hf
set_option maxHeartbeats 4000000 in
set_option maxRecDepth 100000 in
theorem w_X9_hanging_5 {l : Launch} {w : Wp} {L : Ly} {E : Cx} {a0 : Nat} {x2 : Int32} {R0 : Int32 × Mm} (cx : Ok w L E RX9 cX9_hanging 7 1) (en : En w L E (some .int) R0) (h0 : LTramWiresModel w L (a0)) : ∀ (k : Nat) {M : Mm} {x3 x4 : Int32}, l_X9_hanging_5 a0 x2 k M x3 x4 = some R0 → G l w L E M [(0, .ref a0), (2, .int x2), (3, .int x3), (4, .int x4)] 5 [] := by
  intro k
  induction k with
  | zero =>
    intro M x3 x4 hf
    exact absurd hf (by simp [l_X9_hanging_5])
  | succ k ih =>
    intro M x3 x4 hf
    unfold l_X9_hanging_5 at hf
    refine g_iload (pc := 5) cx dX9_hanging_5 3 rfl ?_
    refine g_bipush (pc := 7) (v := 10) cx dX9_hanging_7 (by decide) ?_
    refine g_icmp_ge (pc := 9) (tgt := 85) cx dX9_hanging_9 rfl hf (fun hf => ?_) (fun hf => ?_)
    · refine g_iconst (pc := 12) (v := 0) cx dX9_hanging_12 (by decide) ?_
      refine g_istore (pc := 13) cx [(5, .int 0), (0, .ref a0), (2, .int x2), (3, .int x3), (4, .int x4)] dX9_hanging_13 (by decide) rfl ?_
      refine g_sub [1, 2, 3, 4, 0] [(0, .ref a0), (2, .int x2), (3, .int x3), (4, .int x4), (5, .int 0)] rfl ?_
      exact w_X9_hanging_15 cx en h0 (fun _ _ _ hf => ih hf) FU hf
    · refine g_iload_n (pc := 85) cx dX9_hanging_85 rfl 2 rfl ?_
      exact g_iret (pc := 86) cx en dX9_hanging_86 rfl hf
set_option maxHeartbeats 4000000 in
set_option maxRecDepth 100000 in
theorem c_X9_hanging {l : Launch} {w : Wp} {L : Ly} {a0 : Nat} {M : Mm} {x1 x2 : Int32} {R0 : Int32 × Mm} (h0 : LTramWiresModel w L (a0)) (hf : f_X9_hanging a0 M x1 x2 = some R0) : CT l w L yX9_hanging cX9_hanging 7 (some .int) 1 [.ref a0, .int x1, .int x2] M R0 := by
  unfold f_X9_hanging at hf
  refine CT_of pn_X9 (Nat.le_of_ble_eq_true rfl) (fun E cx en => ?_)
  have cx : Ok w L E RX9 cX9_hanging 7 1 := cx
  show G l w L E M [(0, .ref a0), (1, .int x1), (2, .int x2)] 0 []
  refine g_iload_n (pc := 0) cx dX9_hanging_0 rfl 1 rfl ?_
  refine g_istore_n (pc := 1) cx [(3, .int x1), (0, .ref a0), (1, .int x1), (2, .int x2)] dX9_hanging_1 rfl (by decide) rfl ?_
  refine g_iconst (pc := 2) (v := 0) cx dX9_hanging_2 (by decide) ?_
  refine g_istore (pc := 3) cx [(4, .int 0), (3, .int x1), (0, .ref a0), (1, .int x1), (2, .int x2)] dX9_hanging_3 (by decide) rfl ?_
  refine g_sub [2, 4, 1, 0] [(0, .ref a0), (2, .int x2), (3, .int x1), (4, .int 0)] rfl ?_
  exact w_X9_hanging_5 cx en h0 FU hf
/-! X9_live -/
def b_X9_live_39 (a0 : Nat) (rc5 : Mm → Int32 → Int32 → OR) (M : Mm) (x1 x2 x4 s0 s1 : Int32) : OR := bnd (s0 ||| s1) fun v1 => rc5 M v1 (x4 + 1)
def l_X9_live_5 (a0 : Nat) (x1 x2 : Int32) : Nat → Mm → Int32 → Int32 → OR
  | 0, _, _, _ => none
  | k + 1, M, x3, x4 => ckd 0 233 (if x4 < (M (a0 + 1) (ix 0)) then obn (f_X9_hanging a0 M (1 <<< (x4 &&& 31)) x2) fun q3 M1 => (if (q3 &&& x1) = 0 then b_X9_live_39 a0 (l_X9_live_5 a0 x1 x2 k) M1 x1 x2 x4 x3 0 else b_X9_live_39 a0 (l_X9_live_5 a0 x1 x2 k) M1 x1 x2 x4 x3 (1 <<< (x4 &&& 31))) else some (x3, M))
def f_X9_live (a0 : Nat) (M : Mm) (x1 x2 : Int32) : OR := l_X9_live_5 a0 x1 x2 FU M 0 0
set_option maxHeartbeats 4000000 in
set_option maxRecDepth 100000 in
theorem w_X9_live_39 {l : Launch} {w : Wp} {L : Ly} {E : Cx} {a0 : Nat} {rc5 : Mm → Int32 → Int32 → OR} {x1 x2 x4 s0 s1 : Int32} {R0 : Int32 × Mm} (cx : Ok w L E RX9 cX9_live 5 2) (en : En w L E (some .int) R0) (h0 : LTramWiresModel w L (a0)) (hrc5 : ∀ (M : Mm) (x3 x4 : Int32), rc5 M x3 x4 = some R0 → G l w L E M [(0, .ref a0), (1, .int x1), (2, .int x2), (3, .int x3), (4, .int x4)] 5 []) {M : Mm} (hf : b_X9_live_39 a0 rc5 M x1 x2 x4 s0 s1 = some R0) : G l w L E M [(0, .ref a0), (1, .int x1), (2, .int x2), (4, .int x4)] 39 [.int s1, .int s0] := by
  unfold b_X9_live_39 at hf
  refine g_ior (pc := 39) cx dX9_live_39 ?_
  refine g_nm hf (fun v1 hf => ?_)
  refine g_istore_n (pc := 40) cx [(3, .int v1), (0, .ref a0), (1, .int x1), (2, .int x2), (4, .int x4)] dX9_live_40 rfl (by decide) rfl ?_
  refine g_iinc (pc := 41) cx [(4, .int (x4 + 1)), (3, .int v1), (0, .ref a0), (1, .int x1), (2, .int x2)] dX9_live_41 4 rfl rfl (by decide) rfl ?_
  refine g_goto (pc := 44) (tgt := 5) cx dX9_live_44 rfl ?_
  refine g_sub [2, 3, 4, 1, 0] [(0, .ref a0), (1, .int x1), (2, .int x2), (3, .int v1), (4, .int (x4 + 1))] rfl ?_
  exact hrc5 _ _ _ hf
set_option maxHeartbeats 4000000 in
set_option maxRecDepth 100000 in
theorem w_X9_live_5 {l : Launch} {w : Wp} {L : Ly} {E : Cx} {a0 : Nat} {x1 x2 : Int32} {R0 : Int32 × Mm} (cx : Ok w L E RX9 cX9_live 5 2) (en : En w L E (some .int) R0) (h0 : LTramWiresModel w L (a0)) : ∀ (k : Nat) {M : Mm} {x3 x4 : Int32}, l_X9_live_5 a0 x1 x2 k M x3 x4 = some R0 → G l w L E M [(0, .ref a0), (1, .int x1), (2, .int x2), (3, .int x3), (4, .int x4)] 5 [] := by
  intro k
  induction k with
  | zero =>
    intro M x3 x4 hf
    exact absurd hf (by simp [l_X9_live_5])
  | succ k ih =>
    intro M x3 x4 hf
    unfold l_X9_live_5 at hf
    refine g_iload (pc := 5) cx dX9_live_5 4 rfl ?_
    refine g_aload_n (pc := 7) cx dX9_live_7 rfl 0 rfl ?_
    refine fg_X9_7 (pc := 8) cx dX9_live_8 h0 ?_
    refine g_iconst (pc := 11) (v := 0) cx dX9_live_11 (by decide) ?_
    refine g_iald (pc := 12) cx (LTramWiresModel_st h0) dX9_live_12 hf (fun hf => ?_)
    refine g_icmp_ge (pc := 13) (tgt := 47) cx dX9_live_13 rfl hf (fun hf => ?_) (fun hf => ?_)
    · refine g_iload_n (pc := 16) cx dX9_live_16 rfl 3 rfl ?_
      refine g_aload_n (pc := 17) cx dX9_live_17 rfl 0 rfl ?_
      refine g_iconst (pc := 18) (v := 1) cx dX9_live_18 (by decide) ?_
      refine g_iload (pc := 19) cx dX9_live_19 4 rfl ?_
      refine g_ishl (pc := 21) cx dX9_live_21 ?_
      refine g_iload_n (pc := 22) cx dX9_live_22 rfl 2 rfl ?_
      obtain ⟨q3, M1, hc2, hf⟩ := obn_some2 hf
      refine g_callVi (pc := 23) [.int (1 <<< (x4 &&& 31)), .int x2] [.int x3] cx lk_X9_44 vw_X9 (LTramWiresModel_o h0) (by decide) (c_X9_hanging h0 hc2) dX9_live_23 (Nat.le_of_ble_eq_true rfl) ?_
      refine g_iload_n (pc := 26) cx dX9_live_26 rfl 1 rfl ?_
      refine g_iand (pc := 27) cx dX9_live_27 ?_
      refine g_if_eq (pc := 28) (tgt := 38) cx dX9_live_28 rfl hf (fun hf => ?_) (fun hf => ?_)
      · refine g_iconst (pc := 38) (v := 0) cx dX9_live_38 (by decide) ?_
        refine g_sub [0, 1, 2, 4] [(0, .ref a0), (1, .int x1), (2, .int x2), (4, .int x4)] rfl ?_
        exact w_X9_live_39 cx en h0 (fun _ _ _ hf => ih hf) hf
      · refine g_iconst (pc := 31) (v := 1) cx dX9_live_31 (by decide) ?_
        refine g_iload (pc := 32) cx dX9_live_32 4 rfl ?_
        refine g_ishl (pc := 34) cx dX9_live_34 ?_
        refine g_goto (pc := 35) (tgt := 39) cx dX9_live_35 rfl ?_
        refine g_sub [0, 1, 2, 4] [(0, .ref a0), (1, .int x1), (2, .int x2), (4, .int x4)] rfl ?_
        exact w_X9_live_39 cx en h0 (fun _ _ _ hf => ih hf) hf
    · refine g_iload_n (pc := 47) cx dX9_live_47 rfl 3 rfl ?_
      exact g_iret (pc := 48) cx en dX9_live_48 rfl hf
set_option maxHeartbeats 4000000 in
set_option maxRecDepth 100000 in
theorem c_X9_live {l : Launch} {w : Wp} {L : Ly} {a0 : Nat} {M : Mm} {x1 x2 : Int32} {R0 : Int32 × Mm} (h0 : LTramWiresModel w L (a0)) (hf : f_X9_live a0 M x1 x2 = some R0) : CT l w L yX9_live cX9_live 5 (some .int) 2 [.ref a0, .int x1, .int x2] M R0 := by
  unfold f_X9_live at hf
  refine CT_of pn_X9 (Nat.le_of_ble_eq_true rfl) (fun E cx en => ?_)
  have cx : Ok w L E RX9 cX9_live 5 2 := cx
  show G l w L E M [(0, .ref a0), (1, .int x1), (2, .int x2)] 0 []
  refine g_iconst (pc := 0) (v := 0) cx dX9_live_0 (by decide) ?_
  refine g_istore_n (pc := 1) cx [(3, .int 0), (0, .ref a0), (1, .int x1), (2, .int x2)] dX9_live_1 rfl (by decide) rfl ?_
  refine g_iconst (pc := 2) (v := 0) cx dX9_live_2 (by decide) ?_
  refine g_istore (pc := 3) cx [(4, .int 0), (3, .int 0), (0, .ref a0), (1, .int x1), (2, .int x2)] dX9_live_3 (by decide) rfl ?_
  refine g_sub [2, 3, 4, 1, 0] [(0, .ref a0), (1, .int x1), (2, .int x2), (3, .int 0), (4, .int 0)] rfl ?_
  exact w_X9_live_5 cx en h0 FU hf
/-! X9_liveNow -/
def f_X9_liveNow (a0 : Nat) (M : Mm) : OR := obn (f_X9_onOnes a0 M) fun q3 M1 => (obn (f_X9_closedOnes a0 M1) fun q6 M4 => (obn (f_X9_live a0 M4 q3 q6) fun q9 M7 => (some (q9, M7))))
set_option maxHeartbeats 4000000 in
set_option maxRecDepth 100000 in
theorem c_X9_liveNow {l : Launch} {w : Wp} {L : Ly} {a0 : Nat} {M : Mm} {R0 : Int32 × Mm} (h0 : LTramWiresModel w L (a0)) (hf : f_X9_liveNow a0 M = some R0) : CT l w L yX9_liveNow cX9_liveNow 1 (some .int) 3 [.ref a0] M R0 := by
  unfold f_X9_liveNow at hf
  refine CT_of pn_X9 (Nat.le_of_ble_eq_true rfl) (fun E cx en => ?_)
  have cx : Ok w L E RX9 cX9_liveNow 1 3 := cx
  show G l w L E M [(0, .ref a0)] 0 []
  refine g_aload_n (pc := 0) cx dX9_liveNow_0 rfl 0 rfl ?_
  refine g_aload_n (pc := 1) cx dX9_liveNow_1 rfl 0 rfl ?_
  obtain ⟨q3, M1, hc2, hf⟩ := obn_some2 hf
  refine g_callVi (pc := 2) [] [.ref a0] cx lk_X9_47 vw_X9 (LTramWiresModel_o h0) (by decide) (c_X9_onOnes h0 hc2) dX9_liveNow_2 (Nat.le_of_ble_eq_true rfl) ?_
  refine g_aload_n (pc := 5) cx dX9_liveNow_5 rfl 0 rfl ?_
  obtain ⟨q6, M4, hc5, hf⟩ := obn_some2 hf
  refine g_callVi (pc := 6) [] [.int q3, .ref a0] cx lk_X9_51 vw_X9 (LTramWiresModel_o h0) (by decide) (c_X9_closedOnes h0 hc5) dX9_liveNow_6 (Nat.le_of_ble_eq_true rfl) ?_
  obtain ⟨q9, M7, hc8, hf⟩ := obn_some2 hf
  refine g_callVi (pc := 9) [.int q3, .int q6] [] cx lk_X9_54 vw_X9 (LTramWiresModel_o h0) (by decide) (c_X9_live h0 hc8) dX9_liveNow_9 (Nat.le_of_ble_eq_true rfl) ?_
  exact g_iret (pc := 12) cx en dX9_liveNow_12 rfl hf
/-! X9_isLive -/
def b_X9_isLive_17 (a0 : Nat) (M : Mm) (s0 : Int32) : OR := zrk s0 (some (s0, M))
def f_X9_isLive (a0 : Nat) (M : Mm) (x1 : Int32) : OR := obn (f_X9_liveNow a0 M) fun q3 M1 => (if ((q3 >>> (x1 &&& 31)) &&& 1) = 1 then b_X9_isLive_17 a0 M1 1 else b_X9_isLive_17 a0 M1 0)
set_option maxHeartbeats 4000000 in
set_option maxRecDepth 100000 in
theorem w_X9_isLive_17 {l : Launch} {w : Wp} {L : Ly} {E : Cx} {a0 : Nat} {s0 : Int32} {R0 : Int32 × Mm} (cx : Ok w L E RX9 cX9_isLive 2 4) (en : En w L E (some .boolean) R0) (h0 : LTramWiresModel w L (a0)) {M : Mm} (hf : b_X9_isLive_17 a0 M s0 = some R0) : G l w L E M [] 17 [.int s0] := by
  unfold b_X9_isLive_17 at hf
  exact g_zret (pc := 17) cx en dX9_isLive_17 hf
set_option maxHeartbeats 4000000 in
set_option maxRecDepth 100000 in
theorem c_X9_isLive {l : Launch} {w : Wp} {L : Ly} {a0 : Nat} {M : Mm} {x1 : Int32} {R0 : Int32 × Mm} (h0 : LTramWiresModel w L (a0)) (hf : f_X9_isLive a0 M x1 = some R0) : CT l w L yX9_isLive cX9_isLive 2 (some .boolean) 4 [.ref a0, .int x1] M R0 := by
  unfold f_X9_isLive at hf
  refine CT_of pn_X9 (Nat.le_of_ble_eq_true rfl) (fun E cx en => ?_)
  have cx : Ok w L E RX9 cX9_isLive 2 4 := cx
  show G l w L E M [(0, .ref a0), (1, .int x1)] 0 []
  refine g_aload_n (pc := 0) cx dX9_isLive_0 rfl 0 rfl ?_
  obtain ⟨q3, M1, hc2, hf⟩ := obn_some2 hf
  refine g_callVi (pc := 1) [] [] cx lk_X9_57 vw_X9 (LTramWiresModel_o h0) (by decide) (c_X9_liveNow h0 hc2) dX9_isLive_1 (Nat.le_of_ble_eq_true rfl) ?_
  refine g_iload_n (pc := 4) cx dX9_isLive_4 rfl 1 rfl ?_
  refine g_ishr (pc := 5) cx dX9_isLive_5 ?_
  refine g_iconst (pc := 6) (v := 1) cx dX9_isLive_6 (by decide) ?_
  refine g_iand (pc := 7) cx dX9_isLive_7 ?_
  refine g_iconst (pc := 8) (v := 1) cx dX9_isLive_8 (by decide) ?_
  refine g_icmp_ne (pc := 9) (tgt := 16) cx dX9_isLive_9 rfl hf (fun hf => ?_) (fun hf => ?_)
  · refine g_iconst (pc := 12) (v := 1) cx dX9_isLive_12 (by decide) ?_
    refine g_goto (pc := 13) (tgt := 17) cx dX9_isLive_13 rfl ?_
    refine g_sub [] [] rfl ?_
    exact w_X9_isLive_17 cx en h0 hf
  · refine g_iconst (pc := 16) (v := 0) cx dX9_isLive_16 (by decide) ?_
    refine g_sub [] [] rfl ?_
    exact w_X9_isLive_17 cx en h0 hf
/-! X9_logged -/
def f_X9_logged (a0 : Nat) (M : Mm) (x1 x2 : Int32) : OR := ckd ((161 + (3 * x1)) + x2) 233 (some ((M (a0 + 1) (ix ((161 + (3 * x1)) + x2))), M))
set_option maxHeartbeats 4000000 in
set_option maxRecDepth 100000 in
theorem c_X9_logged {l : Launch} {w : Wp} {L : Ly} {a0 : Nat} {M : Mm} {x1 x2 : Int32} {R0 : Int32 × Mm} (h0 : LTramWiresModel w L (a0)) (hf : f_X9_logged a0 M x1 x2 = some R0) : CT l w L yX9_logged cX9_logged 3 (some .int) 0 [.ref a0, .int x1, .int x2] M R0 := by
  unfold f_X9_logged at hf
  refine CT_of pn_X9 (Nat.le_of_ble_eq_true rfl) (fun E cx en => ?_)
  have cx : Ok w L E RX9 cX9_logged 3 0 := cx
  show G l w L E M [(0, .ref a0), (1, .int x1), (2, .int x2)] 0 []
  refine g_aload_n (pc := 0) cx dX9_logged_0 rfl 0 rfl ?_
  refine fg_X9_7 (pc := 1) cx dX9_logged_1 h0 ?_
  refine g_sipush (pc := 4) (v := 161) cx dX9_logged_4 (by decide) ?_
  refine g_iconst (pc := 7) (v := 3) cx dX9_logged_7 (by decide) ?_
  refine g_iload_n (pc := 8) cx dX9_logged_8 rfl 1 rfl ?_
  refine g_imul (pc := 9) cx dX9_logged_9 ?_
  refine g_iadd (pc := 10) cx dX9_logged_10 ?_
  refine g_iload_n (pc := 11) cx dX9_logged_11 rfl 2 rfl ?_
  refine g_iadd (pc := 12) cx dX9_logged_12 ?_
  refine g_iald (pc := 13) cx (LTramWiresModel_st h0) dX9_logged_13 hf (fun hf => ?_)
  exact g_iret (pc := 14) cx en dX9_logged_14 rfl hf
/-! X9_toldBy -/
def b_X9_toldBy_74 (a0 : Nat) (rc6 : Mm → Int32 → Int32 → OR) (M : Mm) (x1 x2 x3 x5 s0 : Int32) : OR := rc6 M s0 (x5 + 1)
def b_X9_toldBy_55 (a0 : Nat) (rc6 : Mm → Int32 → Int32 → OR) (M : Mm) (x1 x2 x3 x4 x5 s0 : Int32) : OR := if s0 = 0 then b_X9_toldBy_74 a0 rc6 M x1 x2 x3 x5 x4 else obn (f_X9_logged a0 M x5 0) fun q3 M1 => (b_X9_toldBy_74 a0 rc6 M1 x1 x2 x3 x5 q3)
def b_X9_toldBy_54 (a0 : Nat) (rc6 : Mm → Int32 → Int32 → OR) (M : Mm) (x1 x2 x3 x4 x5 : Int32) : OR := b_X9_toldBy_55 a0 rc6 M x1 x2 x3 x4 x5 0
def b_X9_toldBy_39 (a0 : Nat) (rc6 : Mm → Int32 → Int32 → OR) (M : Mm) (x1 x2 x3 x4 x5 : Int32) : OR := obn (f_X9_logged a0 M x5 1) fun q3 M1 => (if q3 = x3 then b_X9_toldBy_55 a0 rc6 M1 x1 x2 x3 x4 x5 1 else b_X9_toldBy_54 a0 rc6 M1 x1 x2 x3 x4 x5)
def l_X9_toldBy_6 (a0 : Nat) (x1 x2 x3 : Int32) : Nat → Mm → Int32 → Int32 → OR
  | 0, _, _, _ => none
  | k + 1, M, x4, x5 => ckd 5 233 (if x5 < (M (a0 + 1) (ix 5)) then obn (f_X9_logged a0 M x5 0) fun q3 M1 => (if q3 = x1 then b_X9_toldBy_39 a0 (l_X9_toldBy_6 a0 x1 x2 x3 k) M1 x1 x2 x3 x4 x5 else obn (f_X9_logged a0 M1 x5 0) fun q6 M4 => (if q6 = x2 then b_X9_toldBy_39 a0 (l_X9_toldBy_6 a0 x1 x2 x3 k) M4 x1 x2 x3 x4 x5 else b_X9_toldBy_54 a0 (l_X9_toldBy_6 a0 x1 x2 x3 k) M4 x1 x2 x3 x4 x5)) else some (x4, M))
def f_X9_toldBy (a0 : Nat) (M : Mm) (x1 x2 x3 : Int32) : OR := l_X9_toldBy_6 a0 x1 x2 x3 FU M (-1) 0
set_option maxHeartbeats 4000000 in
set_option maxRecDepth 100000 in
theorem w_X9_toldBy_74 {l : Launch} {w : Wp} {L : Ly} {E : Cx} {a0 : Nat} {rc6 : Mm → Int32 → Int32 → OR} {x1 x2 x3 x5 s0 : Int32} {R0 : Int32 × Mm} (cx : Ok w L E RX9 cX9_toldBy 7 1) (en : En w L E (some .int) R0) (h0 : LTramWiresModel w L (a0)) (hrc6 : ∀ (M : Mm) (x4 x5 : Int32), rc6 M x4 x5 = some R0 → G l w L E M [(0, .ref a0), (1, .int x1), (2, .int x2), (3, .int x3), (4, .int x4), (5, .int x5)] 6 []) {M : Mm} (hf : b_X9_toldBy_74 a0 rc6 M x1 x2 x3 x5 s0 = some R0) : G l w L E M [(0, .ref a0), (1, .int x1), (2, .int x2), (3, .int x3), (5, .int x5)] 74 [.int s0] := by
  unfold b_X9_toldBy_74 at hf
  refine g_istore (pc := 74) cx [(4, .int s0), (0, .ref a0), (1, .int x1), (2, .int x2), (3, .int x3), (5, .int x5)] dX9_toldBy_74 (by decide) rfl ?_
  refine g_iinc (pc := 76) cx [(5, .int (x5 + 1)), (4, .int s0), (0, .ref a0), (1, .int x1), (2, .int x2), (3, .int x3)] dX9_toldBy_76 5 rfl rfl (by decide) rfl ?_
  refine g_goto (pc := 79) (tgt := 6) cx dX9_toldBy_79 rfl ?_
  refine g_sub [2, 3, 4, 5, 1, 0] [(0, .ref a0), (1, .int x1), (2, .int x2), (3, .int x3), (4, .int s0), (5, .int (x5 + 1))] rfl ?_
  exact hrc6 _ _ _ hf
set_option maxHeartbeats 4000000 in
set_option maxRecDepth 100000 in
theorem w_X9_toldBy_55 {l : Launch} {w : Wp} {L : Ly} {E : Cx} {a0 : Nat} {rc6 : Mm → Int32 → Int32 → OR} {x1 x2 x3 x4 x5 s0 : Int32} {R0 : Int32 × Mm} (cx : Ok w L E RX9 cX9_toldBy 7 1) (en : En w L E (some .int) R0) (h0 : LTramWiresModel w L (a0)) (hrc6 : ∀ (M : Mm) (x4 x5 : Int32), rc6 M x4 x5 = some R0 → G l w L E M [(0, .ref a0), (1, .int x1), (2, .int x2), (3, .int x3), (4, .int x4), (5, .int x5)] 6 []) {M : Mm} (hf : b_X9_toldBy_55 a0 rc6 M x1 x2 x3 x4 x5 s0 = some R0) : G l w L E M [(0, .ref a0), (1, .int x1), (2, .int x2), (3, .int x3), (4, .int x4), (5, .int x5)] 55 [.int s0] := by
  unfold b_X9_toldBy_55 at hf
  refine g_istore (pc := 55) cx [(6, .int s0), (0, .ref a0), (1, .int x1), (2, .int x2), (3, .int x3), (4, .int x4), (5, .int x5)] dX9_toldBy_55 (by decide) rfl ?_
  refine g_iload (pc := 57) cx dX9_toldBy_57 0 rfl ?_
  refine g_if_eq (pc := 59) (tgt := 72) cx dX9_toldBy_59 rfl hf (fun hf => ?_) (fun hf => ?_)
  · refine g_iload (pc := 72) cx dX9_toldBy_72 5 rfl ?_
    refine g_sub [1, 2, 3, 4, 6] [(0, .ref a0), (1, .int x1), (2, .int x2), (3, .int x3), (5, .int x5)] rfl ?_
    exact w_X9_toldBy_74 cx en h0 hrc6 hf
  · refine g_aload_n (pc := 62) cx dX9_toldBy_62 rfl 1 rfl ?_
    refine g_iload (pc := 63) cx dX9_toldBy_63 6 rfl ?_
    refine g_iconst (pc := 65) (v := 0) cx dX9_toldBy_65 (by decide) ?_
    obtain ⟨q3, M1, hc2, hf⟩ := obn_some2 hf
    refine g_callVi (pc := 66) [.int x5, .int 0] [] cx lk_X9_60 vw_X9 (LTramWiresModel_o h0) (by decide) (c_X9_logged h0 hc2) dX9_toldBy_66 (Nat.le_of_ble_eq_true rfl) ?_
    refine g_goto (pc := 69) (tgt := 74) cx dX9_toldBy_69 rfl ?_
    refine g_sub [1, 2, 3, 4, 6] [(0, .ref a0), (1, .int x1), (2, .int x2), (3, .int x3), (5, .int x5)] rfl ?_
    exact w_X9_toldBy_74 cx en h0 hrc6 hf
set_option maxHeartbeats 4000000 in
set_option maxRecDepth 100000 in
theorem w_X9_toldBy_54 {l : Launch} {w : Wp} {L : Ly} {E : Cx} {a0 : Nat} {rc6 : Mm → Int32 → Int32 → OR} {x1 x2 x3 x4 x5 : Int32} {R0 : Int32 × Mm} (cx : Ok w L E RX9 cX9_toldBy 7 1) (en : En w L E (some .int) R0) (h0 : LTramWiresModel w L (a0)) (hrc6 : ∀ (M : Mm) (x4 x5 : Int32), rc6 M x4 x5 = some R0 → G l w L E M [(0, .ref a0), (1, .int x1), (2, .int x2), (3, .int x3), (4, .int x4), (5, .int x5)] 6 []) {M : Mm} (hf : b_X9_toldBy_54 a0 rc6 M x1 x2 x3 x4 x5 = some R0) : G l w L E M [(0, .ref a0), (1, .int x1), (2, .int x2), (3, .int x3), (4, .int x4), (5, .int x5)] 54 [] := by
  unfold b_X9_toldBy_54 at hf
  refine g_iconst (pc := 54) (v := 0) cx dX9_toldBy_54 (by decide) ?_
  exact w_X9_toldBy_55 cx en h0 hrc6 hf
set_option maxHeartbeats 4000000 in
set_option maxRecDepth 100000 in
theorem w_X9_toldBy_39 {l : Launch} {w : Wp} {L : Ly} {E : Cx} {a0 : Nat} {rc6 : Mm → Int32 → Int32 → OR} {x1 x2 x3 x4 x5 : Int32} {R0 : Int32 × Mm} (cx : Ok w L E RX9 cX9_toldBy 7 1) (en : En w L E (some .int) R0) (h0 : LTramWiresModel w L (a0)) (hrc6 : ∀ (M : Mm) (x4 x5 : Int32), rc6 M x4 x5 = some R0 → G l w L E M [(0, .ref a0), (1, .int x1), (2, .int x2), (3, .int x3), (4, .int x4), (5, .int x5)] 6 []) {M : Mm} (hf : b_X9_toldBy_39 a0 rc6 M x1 x2 x3 x4 x5 = some R0) : G l w L E M [(0, .ref a0), (1, .int x1), (2, .int x2), (3, .int x3), (4, .int x4), (5, .int x5)] 39 [] := by
  unfold b_X9_toldBy_39 at hf
  refine g_aload_n (pc := 39) cx dX9_toldBy_39 rfl 0 rfl ?_
  refine g_iload (pc := 40) cx dX9_toldBy_40 5 rfl ?_
  refine g_iconst (pc := 42) (v := 1) cx dX9_toldBy_42 (by decide) ?_
  obtain ⟨q3, M1, hc2, hf⟩ := obn_some2 hf
  refine g_callVi (pc := 43) [.int x5, .int 1] [] cx lk_X9_60 vw_X9 (LTramWiresModel_o h0) (by decide) (c_X9_logged h0 hc2) dX9_toldBy_43 (Nat.le_of_ble_eq_true rfl) ?_
  refine g_iload_n (pc := 46) cx dX9_toldBy_46 rfl 3 rfl ?_
  refine g_icmp_ne (pc := 47) (tgt := 54) cx dX9_toldBy_47 rfl hf (fun hf => ?_) (fun hf => ?_)
  · refine g_iconst (pc := 50) (v := 1) cx dX9_toldBy_50 (by decide) ?_
    refine g_goto (pc := 51) (tgt := 55) cx dX9_toldBy_51 rfl ?_
    exact w_X9_toldBy_55 cx en h0 hrc6 hf
  · exact w_X9_toldBy_54 cx en h0 hrc6 hf
set_option maxHeartbeats 4000000 in
set_option maxRecDepth 100000 in
theorem w_X9_toldBy_6 {l : Launch} {w : Wp} {L : Ly} {E : Cx} {a0 : Nat} {x1 x2 x3 : Int32} {R0 : Int32 × Mm} (cx : Ok w L E RX9 cX9_toldBy 7 1) (en : En w L E (some .int) R0) (h0 : LTramWiresModel w L (a0)) : ∀ (k : Nat) {M : Mm} {x4 x5 : Int32}, l_X9_toldBy_6 a0 x1 x2 x3 k M x4 x5 = some R0 → G l w L E M [(0, .ref a0), (1, .int x1), (2, .int x2), (3, .int x3), (4, .int x4), (5, .int x5)] 6 [] := by
  intro k
  induction k with
  | zero =>
    intro M x4 x5 hf
    exact absurd hf (by simp [l_X9_toldBy_6])
  | succ k ih =>
    intro M x4 x5 hf
    unfold l_X9_toldBy_6 at hf
    refine g_iload (pc := 6) cx dX9_toldBy_6 5 rfl ?_
    refine g_aload_n (pc := 8) cx dX9_toldBy_8 rfl 0 rfl ?_
    refine fg_X9_7 (pc := 9) cx dX9_toldBy_9 h0 ?_
    refine g_iconst (pc := 12) (v := 5) cx dX9_toldBy_12 (by decide) ?_
    refine g_iald (pc := 13) cx (LTramWiresModel_st h0) dX9_toldBy_13 hf (fun hf => ?_)
    refine g_icmp_ge (pc := 14) (tgt := 82) cx dX9_toldBy_14 rfl hf (fun hf => ?_) (fun hf => ?_)
    · refine g_aload_n (pc := 17) cx dX9_toldBy_17 rfl 0 rfl ?_
      refine g_iload (pc := 18) cx dX9_toldBy_18 5 rfl ?_
      refine g_iconst (pc := 20) (v := 0) cx dX9_toldBy_20 (by decide) ?_
      obtain ⟨q3, M1, hc2, hf⟩ := obn_some2 hf
      refine g_callVi (pc := 21) [.int x5, .int 0] [] cx lk_X9_60 vw_X9 (LTramWiresModel_o h0) (by decide) (c_X9_logged h0 hc2) dX9_toldBy_21 (Nat.le_of_ble_eq_true rfl) ?_
      refine g_iload_n (pc := 24) cx dX9_toldBy_24 rfl 1 rfl ?_
      refine g_icmp_eq (pc := 25) (tgt := 39) cx dX9_toldBy_25 rfl hf (fun hf => ?_) (fun hf => ?_)
      · exact w_X9_toldBy_39 cx en h0 (fun _ _ _ hf => ih hf) hf
      · refine g_aload_n (pc := 28) cx dX9_toldBy_28 rfl 0 rfl ?_
        refine g_iload (pc := 29) cx dX9_toldBy_29 5 rfl ?_
        refine g_iconst (pc := 31) (v := 0) cx dX9_toldBy_31 (by decide) ?_
        obtain ⟨q6, M4, hc5, hf⟩ := obn_some2 hf
        refine g_callVi (pc := 32) [.int x5, .int 0] [] cx lk_X9_60 vw_X9 (LTramWiresModel_o h0) (by decide) (c_X9_logged h0 hc5) dX9_toldBy_32 (Nat.le_of_ble_eq_true rfl) ?_
        refine g_iload_n (pc := 35) cx dX9_toldBy_35 rfl 2 rfl ?_
        refine g_icmp_ne (pc := 36) (tgt := 54) cx dX9_toldBy_36 rfl hf (fun hf => ?_) (fun hf => ?_)
        · exact w_X9_toldBy_39 cx en h0 (fun _ _ _ hf => ih hf) hf
        · exact w_X9_toldBy_54 cx en h0 (fun _ _ _ hf => ih hf) hf
    · refine g_iload (pc := 82) cx dX9_toldBy_82 4 rfl ?_
      exact g_iret (pc := 84) cx en dX9_toldBy_84 rfl hf
set_option maxHeartbeats 4000000 in
set_option maxRecDepth 100000 in
theorem c_X9_toldBy {l : Launch} {w : Wp} {L : Ly} {a0 : Nat} {M : Mm} {x1 x2 x3 : Int32} {R0 : Int32 × Mm} (h0 : LTramWiresModel w L (a0)) (hf : f_X9_toldBy a0 M x1 x2 x3 = some R0) : CT l w L yX9_toldBy cX9_toldBy 7 (some .int) 1 [.ref a0, .int x1, .int x2, .int x3] M R0 := by
  unfold f_X9_toldBy at hf
  refine CT_of pn_X9 (Nat.le_of_ble_eq_true rfl) (fun E cx en => ?_)
  have cx : Ok w L E RX9 cX9_toldBy 7 1 := cx
  show G l w L E M [(0, .ref a0), (1, .int x1), (2, .int x2), (3, .int x3)] 0 []
  refine g_iconst (pc := 0) (v := (-1)) cx dX9_toldBy_0 (by decide) ?_
  refine g_istore (pc := 1) cx [(4, .int (-1)), (0, .ref a0), (1, .int x1), (2, .int x2), (3, .int x3)] dX9_toldBy_1 (by decide) rfl ?_
  refine g_iconst (pc := 3) (v := 0) cx dX9_toldBy_3 (by decide) ?_
  refine g_istore (pc := 4) cx [(5, .int 0), (4, .int (-1)), (0, .ref a0), (1, .int x1), (2, .int x2), (3, .int x3)] dX9_toldBy_4 (by decide) rfl ?_
  refine g_sub [2, 3, 4, 5, 1, 0] [(0, .ref a0), (1, .int x1), (2, .int x2), (3, .int x3), (4, .int (-1)), (5, .int 0)] rfl ?_
  exact w_X9_toldBy_6 cx en h0 FU hf
/-! X9_closedAgain -/
def b_X9_closedAgain_31 (a0 : Nat) (M : Mm) (s0 : Int32) : OR := some (s0, M)
def f_X9_closedAgain (a0 : Nat) (M : Mm) (x1 : Int32) : OR := obn (f_X9_toldBy a0 M 2 3 x1) fun q3 M1 => (if q3 < 0 then obn (f_X9_at a0 M1 x1 3) fun q6 M4 => (b_X9_closedAgain_31 a0 M4 q6) else if q3 = 3 then b_X9_closedAgain_31 a0 M1 1 else b_X9_closedAgain_31 a0 M1 0)
set_option maxHeartbeats 4000000 in
set_option maxRecDepth 100000 in
theorem w_X9_closedAgain_31 {l : Launch} {w : Wp} {L : Ly} {E : Cx} {a0 : Nat} {s0 : Int32} {R0 : Int32 × Mm} (cx : Ok w L E RX9 cX9_closedAgain 3 2) (en : En w L E (some .int) R0) (h0 : LTramWiresModel w L (a0)) {M : Mm} (hf : b_X9_closedAgain_31 a0 M s0 = some R0) : G l w L E M [] 31 [.int s0] := by
  unfold b_X9_closedAgain_31 at hf
  exact g_iret (pc := 31) cx en dX9_closedAgain_31 rfl hf
set_option maxHeartbeats 4000000 in
set_option maxRecDepth 100000 in
theorem c_X9_closedAgain {l : Launch} {w : Wp} {L : Ly} {a0 : Nat} {M : Mm} {x1 : Int32} {R0 : Int32 × Mm} (h0 : LTramWiresModel w L (a0)) (hf : f_X9_closedAgain a0 M x1 = some R0) : CT l w L yX9_closedAgain cX9_closedAgain 3 (some .int) 2 [.ref a0, .int x1] M R0 := by
  unfold f_X9_closedAgain at hf
  refine CT_of pn_X9 (Nat.le_of_ble_eq_true rfl) (fun E cx en => ?_)
  have cx : Ok w L E RX9 cX9_closedAgain 3 2 := cx
  show G l w L E M [(0, .ref a0), (1, .int x1)] 0 []
  refine g_aload_n (pc := 0) cx dX9_closedAgain_0 rfl 0 rfl ?_
  refine g_iconst (pc := 1) (v := 2) cx dX9_closedAgain_1 (by decide) ?_
  refine g_iconst (pc := 2) (v := 3) cx dX9_closedAgain_2 (by decide) ?_
  refine g_iload_n (pc := 3) cx dX9_closedAgain_3 rfl 1 rfl ?_
  obtain ⟨q3, M1, hc2, hf⟩ := obn_some2 hf
  refine g_callVi (pc := 4) [.int 2, .int 3, .int x1] [] cx lk_X9_63 vw_X9 (LTramWiresModel_o h0) (by decide) (c_X9_toldBy h0 hc2) dX9_closedAgain_4 (Nat.le_of_ble_eq_true rfl) ?_
  refine g_istore_n (pc := 7) cx [(2, .int q3), (0, .ref a0), (1, .int x1)] dX9_closedAgain_7 rfl (by decide) rfl ?_
  refine g_iload_n (pc := 8) cx dX9_closedAgain_8 rfl 0 rfl ?_
  refine g_if_ge (pc := 9) (tgt := 21) cx dX9_closedAgain_9 rfl hf (fun hf => ?_) (fun hf => ?_)
  · refine g_aload_n (pc := 12) cx dX9_closedAgain_12 rfl 1 rfl ?_
    refine g_iload_n (pc := 13) cx dX9_closedAgain_13 rfl 2 rfl ?_
    refine g_iconst (pc := 14) (v := 3) cx dX9_closedAgain_14 (by decide) ?_
    obtain ⟨q6, M4, hc5, hf⟩ := obn_some2 hf
    refine g_callVi (pc := 15) [.int x1, .int 3] [] cx lk_X9_33 vw_X9 (LTramWiresModel_o h0) (by decide) (c_X9_at h0 hc5) dX9_closedAgain_15 (Nat.le_of_ble_eq_true rfl) ?_
    refine g_goto (pc := 18) (tgt := 31) cx dX9_closedAgain_18 rfl ?_
    refine g_sub [] [] rfl ?_
    exact w_X9_closedAgain_31 cx en h0 hf
  · refine g_iload_n (pc := 21) cx dX9_closedAgain_21 rfl 0 rfl ?_
    refine g_iconst (pc := 22) (v := 3) cx dX9_closedAgain_22 (by decide) ?_
    refine g_icmp_ne (pc := 23) (tgt := 30) cx dX9_closedAgain_23 rfl hf (fun hf => ?_) (fun hf => ?_)
    · refine g_iconst (pc := 26) (v := 1) cx dX9_closedAgain_26 (by decide) ?_
      refine g_goto (pc := 27) (tgt := 31) cx dX9_closedAgain_27 rfl ?_
      refine g_sub [] [] rfl ?_
      exact w_X9_closedAgain_31 cx en h0 hf
    · refine g_iconst (pc := 30) (v := 0) cx dX9_closedAgain_30 (by decide) ?_
      refine g_sub [] [] rfl ?_
      exact w_X9_closedAgain_31 cx en h0 hf
/-! X9_onAgain -/
def b_X9_onAgain_32 (a0 : Nat) (M : Mm) (s0 : Int32) : OR := some (s0, M)
def f_X9_onAgain (a0 : Nat) (M : Mm) (x1 : Int32) : OR := obn (f_X9_toldBy a0 M 4 5 x1) fun q3 M1 => (if q3 < 0 then obn (f_X9_of a0 M1 x1 8) fun q6 M4 => (b_X9_onAgain_32 a0 M4 q6) else if q3 = 5 then b_X9_onAgain_32 a0 M1 1 else b_X9_onAgain_32 a0 M1 0)
set_option maxHeartbeats 4000000 in
set_option maxRecDepth 100000 in
theorem w_X9_onAgain_32 {l : Launch} {w : Wp} {L : Ly} {E : Cx} {a0 : Nat} {s0 : Int32} {R0 : Int32 × Mm} (cx : Ok w L E RX9 cX9_onAgain 3 2) (en : En w L E (some .int) R0) (h0 : LTramWiresModel w L (a0)) {M : Mm} (hf : b_X9_onAgain_32 a0 M s0 = some R0) : G l w L E M [] 32 [.int s0] := by
  unfold b_X9_onAgain_32 at hf
  exact g_iret (pc := 32) cx en dX9_onAgain_32 rfl hf
set_option maxHeartbeats 4000000 in
set_option maxRecDepth 100000 in
theorem c_X9_onAgain {l : Launch} {w : Wp} {L : Ly} {a0 : Nat} {M : Mm} {x1 : Int32} {R0 : Int32 × Mm} (h0 : LTramWiresModel w L (a0)) (hf : f_X9_onAgain a0 M x1 = some R0) : CT l w L yX9_onAgain cX9_onAgain 3 (some .int) 2 [.ref a0, .int x1] M R0 := by
  unfold f_X9_onAgain at hf
  refine CT_of pn_X9 (Nat.le_of_ble_eq_true rfl) (fun E cx en => ?_)
  have cx : Ok w L E RX9 cX9_onAgain 3 2 := cx
  show G l w L E M [(0, .ref a0), (1, .int x1)] 0 []
  refine g_aload_n (pc := 0) cx dX9_onAgain_0 rfl 0 rfl ?_
  refine g_iconst (pc := 1) (v := 4) cx dX9_onAgain_1 (by decide) ?_
  refine g_iconst (pc := 2) (v := 5) cx dX9_onAgain_2 (by decide) ?_
  refine g_iload_n (pc := 3) cx dX9_onAgain_3 rfl 1 rfl ?_
  obtain ⟨q3, M1, hc2, hf⟩ := obn_some2 hf
  refine g_callVi (pc := 4) [.int 4, .int 5, .int x1] [] cx lk_X9_63 vw_X9 (LTramWiresModel_o h0) (by decide) (c_X9_toldBy h0 hc2) dX9_onAgain_4 (Nat.le_of_ble_eq_true rfl) ?_
  refine g_istore_n (pc := 7) cx [(2, .int q3), (0, .ref a0), (1, .int x1)] dX9_onAgain_7 rfl (by decide) rfl ?_
  refine g_iload_n (pc := 8) cx dX9_onAgain_8 rfl 0 rfl ?_
  refine g_if_ge (pc := 9) (tgt := 22) cx dX9_onAgain_9 rfl hf (fun hf => ?_) (fun hf => ?_)
  · refine g_aload_n (pc := 12) cx dX9_onAgain_12 rfl 1 rfl ?_
    refine g_iload_n (pc := 13) cx dX9_onAgain_13 rfl 2 rfl ?_
    refine g_bipush (pc := 14) (v := 8) cx dX9_onAgain_14 (by decide) ?_
    obtain ⟨q6, M4, hc5, hf⟩ := obn_some2 hf
    refine g_callVi (pc := 16) [.int x1, .int 8] [] cx lk_X9_37 vw_X9 (LTramWiresModel_o h0) (by decide) (c_X9_of h0 hc5) dX9_onAgain_16 (Nat.le_of_ble_eq_true rfl) ?_
    refine g_goto (pc := 19) (tgt := 32) cx dX9_onAgain_19 rfl ?_
    refine g_sub [] [] rfl ?_
    exact w_X9_onAgain_32 cx en h0 hf
  · refine g_iload_n (pc := 22) cx dX9_onAgain_22 rfl 0 rfl ?_
    refine g_iconst (pc := 23) (v := 5) cx dX9_onAgain_23 (by decide) ?_
    refine g_icmp_ne (pc := 24) (tgt := 31) cx dX9_onAgain_24 rfl hf (fun hf => ?_) (fun hf => ?_)
    · refine g_iconst (pc := 27) (v := 1) cx dX9_onAgain_27 (by decide) ?_
      refine g_goto (pc := 28) (tgt := 32) cx dX9_onAgain_28 rfl ?_
      refine g_sub [] [] rfl ?_
      exact w_X9_onAgain_32 cx en h0 hf
    · refine g_iconst (pc := 31) (v := 0) cx dX9_onAgain_31 (by decide) ?_
      refine g_sub [] [] rfl ?_
      exact w_X9_onAgain_32 cx en h0 hf
/-! X9_liveAgain -/
def l_X9_liveAgain_34 (a0 : Nat) (x1 : Int32) : Nat → Mm → Int32 → Int32 → OR
  | 0, _, _, _ => none
  | k + 1, M, x2, x3 => ckd 1 233 (if x3 < (M (a0 + 1) (ix 1)) then obn (f_X9_closedAgain a0 M x3) fun q3 M1 => (bnd (x2 ||| (q3 <<< (x3 &&& 31))) fun v4 => l_X9_liveAgain_34 a0 x1 k M1 v4 (x3 + 1)) else obn (f_X9_hanging a0 M x1 x2) fun q7 M5 => (some (q7, M5)))
def l_X9_liveAgain_6 (a0 : Nat) (x2 : Int32) : Nat → Mm → Int32 → Int32 → OR
  | 0, _, _, _ => none
  | k + 1, M, x1, x3 => ckd 0 233 (if x3 < (M (a0 + 1) (ix 0)) then obn (f_X9_onAgain a0 M x3) fun q3 M1 => (bnd (x1 ||| (q3 <<< (x3 &&& 31))) fun v4 => l_X9_liveAgain_6 a0 x2 k M1 v4 (x3 + 1)) else l_X9_liveAgain_34 a0 x1 FU M x2 0)
def f_X9_liveAgain (a0 : Nat) (M : Mm) : OR := l_X9_liveAgain_6 a0 0 FU M 0 0
set_option maxHeartbeats 4000000 in
set_option maxRecDepth 100000 in
theorem w_X9_liveAgain_34 {l : Launch} {w : Wp} {L : Ly} {E : Cx} {a0 : Nat} {x1 : Int32} {R0 : Int32 × Mm} (cx : Ok w L E RX9 cX9_liveAgain 4 3) (en : En w L E (some .int) R0) (h0 : LTramWiresModel w L (a0)) : ∀ (k : Nat) {M : Mm} {x2 x3 : Int32}, l_X9_liveAgain_34 a0 x1 k M x2 x3 = some R0 → G l w L E M [(0, .ref a0), (1, .int x1), (2, .int x2), (3, .int x3)] 34 [] := by
  intro k
  induction k with
  | zero =>
    intro M x2 x3 hf
    exact absurd hf (by simp [l_X9_liveAgain_34])
  | succ k ih =>
    intro M x2 x3 hf
    unfold l_X9_liveAgain_34 at hf
    refine g_iload_n (pc := 34) cx dX9_liveAgain_34 rfl 3 rfl ?_
    refine g_aload_n (pc := 35) cx dX9_liveAgain_35 rfl 0 rfl ?_
    refine fg_X9_7 (pc := 36) cx dX9_liveAgain_36 h0 ?_
    refine g_iconst (pc := 39) (v := 1) cx dX9_liveAgain_39 (by decide) ?_
    refine g_iald (pc := 40) cx (LTramWiresModel_st h0) dX9_liveAgain_40 hf (fun hf => ?_)
    refine g_icmp_ge (pc := 41) (tgt := 60) cx dX9_liveAgain_41 rfl hf (fun hf => ?_) (fun hf => ?_)
    · refine g_iload_n (pc := 44) cx dX9_liveAgain_44 rfl 2 rfl ?_
      refine g_aload_n (pc := 45) cx dX9_liveAgain_45 rfl 0 rfl ?_
      refine g_iload_n (pc := 46) cx dX9_liveAgain_46 rfl 3 rfl ?_
      obtain ⟨q3, M1, hc2, hf⟩ := obn_some2 hf
      refine g_callVi (pc := 47) [.int x3] [.int x2] cx lk_X9_70 vw_X9 (LTramWiresModel_o h0) (by decide) (c_X9_closedAgain h0 hc2) dX9_liveAgain_47 (Nat.le_of_ble_eq_true rfl) ?_
      refine g_iload_n (pc := 50) cx dX9_liveAgain_50 rfl 3 rfl ?_
      refine g_ishl (pc := 51) cx dX9_liveAgain_51 ?_
      refine g_ior (pc := 52) cx dX9_liveAgain_52 ?_
      refine g_nm hf (fun v4 hf => ?_)
      refine g_istore_n (pc := 53) cx [(2, .int v4), (0, .ref a0), (1, .int x1), (3, .int x3)] dX9_liveAgain_53 rfl (by decide) rfl ?_
      refine g_iinc (pc := 54) cx [(3, .int (x3 + 1)), (2, .int v4), (0, .ref a0), (1, .int x1)] dX9_liveAgain_54 3 rfl rfl (by decide) rfl ?_
      refine g_goto (pc := 57) (tgt := 34) cx dX9_liveAgain_57 rfl ?_
      refine g_sub [2, 3, 1, 0] [(0, .ref a0), (1, .int x1), (2, .int v4), (3, .int (x3 + 1))] rfl ?_
      exact ih hf
    · refine g_aload_n (pc := 60) cx dX9_liveAgain_60 rfl 0 rfl ?_
      refine g_iload_n (pc := 61) cx dX9_liveAgain_61 rfl 1 rfl ?_
      refine g_iload_n (pc := 62) cx dX9_liveAgain_62 rfl 2 rfl ?_
      obtain ⟨q7, M5, hc6, hf⟩ := obn_some2 hf
      refine g_callVi (pc := 63) [.int x1, .int x2] [] cx lk_X9_44 vw_X9 (LTramWiresModel_o h0) (by decide) (c_X9_hanging h0 hc6) dX9_liveAgain_63 (Nat.le_of_ble_eq_true rfl) ?_
      exact g_iret (pc := 66) cx en dX9_liveAgain_66 rfl hf
set_option maxHeartbeats 4000000 in
set_option maxRecDepth 100000 in
theorem w_X9_liveAgain_6 {l : Launch} {w : Wp} {L : Ly} {E : Cx} {a0 : Nat} {x2 : Int32} {R0 : Int32 × Mm} (cx : Ok w L E RX9 cX9_liveAgain 4 3) (en : En w L E (some .int) R0) (h0 : LTramWiresModel w L (a0)) : ∀ (k : Nat) {M : Mm} {x1 x3 : Int32}, l_X9_liveAgain_6 a0 x2 k M x1 x3 = some R0 → G l w L E M [(0, .ref a0), (1, .int x1), (2, .int x2), (3, .int x3)] 6 [] := by
  intro k
  induction k with
  | zero =>
    intro M x1 x3 hf
    exact absurd hf (by simp [l_X9_liveAgain_6])
  | succ k ih =>
    intro M x1 x3 hf
    unfold l_X9_liveAgain_6 at hf
    refine g_iload_n (pc := 6) cx dX9_liveAgain_6 rfl 3 rfl ?_
    refine g_aload_n (pc := 7) cx dX9_liveAgain_7 rfl 0 rfl ?_
    refine fg_X9_7 (pc := 8) cx dX9_liveAgain_8 h0 ?_
    refine g_iconst (pc := 11) (v := 0) cx dX9_liveAgain_11 (by decide) ?_
    refine g_iald (pc := 12) cx (LTramWiresModel_st h0) dX9_liveAgain_12 hf (fun hf => ?_)
    refine g_icmp_ge (pc := 13) (tgt := 32) cx dX9_liveAgain_13 rfl hf (fun hf => ?_) (fun hf => ?_)
    · refine g_iload_n (pc := 16) cx dX9_liveAgain_16 rfl 1 rfl ?_
      refine g_aload_n (pc := 17) cx dX9_liveAgain_17 rfl 0 rfl ?_
      refine g_iload_n (pc := 18) cx dX9_liveAgain_18 rfl 3 rfl ?_
      obtain ⟨q3, M1, hc2, hf⟩ := obn_some2 hf
      refine g_callVi (pc := 19) [.int x3] [.int x1] cx lk_X9_67 vw_X9 (LTramWiresModel_o h0) (by decide) (c_X9_onAgain h0 hc2) dX9_liveAgain_19 (Nat.le_of_ble_eq_true rfl) ?_
      refine g_iload_n (pc := 22) cx dX9_liveAgain_22 rfl 3 rfl ?_
      refine g_ishl (pc := 23) cx dX9_liveAgain_23 ?_
      refine g_ior (pc := 24) cx dX9_liveAgain_24 ?_
      refine g_nm hf (fun v4 hf => ?_)
      refine g_istore_n (pc := 25) cx [(1, .int v4), (0, .ref a0), (2, .int x2), (3, .int x3)] dX9_liveAgain_25 rfl (by decide) rfl ?_
      refine g_iinc (pc := 26) cx [(3, .int (x3 + 1)), (1, .int v4), (0, .ref a0), (2, .int x2)] dX9_liveAgain_26 3 rfl rfl (by decide) rfl ?_
      refine g_goto (pc := 29) (tgt := 6) cx dX9_liveAgain_29 rfl ?_
      refine g_sub [2, 1, 3, 0] [(0, .ref a0), (1, .int v4), (2, .int x2), (3, .int (x3 + 1))] rfl ?_
      exact ih hf
    · refine g_iconst (pc := 32) (v := 0) cx dX9_liveAgain_32 (by decide) ?_
      refine g_istore_n (pc := 33) cx [(3, .int 0), (0, .ref a0), (1, .int x1), (2, .int x2)] dX9_liveAgain_33 rfl (by decide) rfl ?_
      refine g_sub [1, 2, 3, 0] [(0, .ref a0), (1, .int x1), (2, .int x2), (3, .int 0)] rfl ?_
      exact w_X9_liveAgain_34 cx en h0 FU hf
set_option maxHeartbeats 4000000 in
set_option maxRecDepth 100000 in
theorem c_X9_liveAgain {l : Launch} {w : Wp} {L : Ly} {a0 : Nat} {M : Mm} {R0 : Int32 × Mm} (h0 : LTramWiresModel w L (a0)) (hf : f_X9_liveAgain a0 M = some R0) : CT l w L yX9_liveAgain cX9_liveAgain 4 (some .int) 3 [.ref a0] M R0 := by
  unfold f_X9_liveAgain at hf
  refine CT_of pn_X9 (Nat.le_of_ble_eq_true rfl) (fun E cx en => ?_)
  have cx : Ok w L E RX9 cX9_liveAgain 4 3 := cx
  show G l w L E M [(0, .ref a0)] 0 []
  refine g_iconst (pc := 0) (v := 0) cx dX9_liveAgain_0 (by decide) ?_
  refine g_istore_n (pc := 1) cx [(1, .int 0), (0, .ref a0)] dX9_liveAgain_1 rfl (by decide) rfl ?_
  refine g_iconst (pc := 2) (v := 0) cx dX9_liveAgain_2 (by decide) ?_
  refine g_istore_n (pc := 3) cx [(2, .int 0), (1, .int 0), (0, .ref a0)] dX9_liveAgain_3 rfl (by decide) rfl ?_
  refine g_iconst (pc := 4) (v := 0) cx dX9_liveAgain_4 (by decide) ?_
  refine g_istore_n (pc := 5) cx [(3, .int 0), (2, .int 0), (1, .int 0), (0, .ref a0)] dX9_liveAgain_5 rfl (by decide) rfl ?_
  refine g_sub [3, 2, 1, 0] [(0, .ref a0), (1, .int 0), (2, .int 0), (3, .int 0)] rfl ?_
  exact w_X9_liveAgain_6 cx en h0 FU hf
/-! X9_section -/
def b_X9_section_19 (a0 : Nat) (M : Mm) : OR := some ((-1), M)
def l_X9_section_49 (a0 : Nat) (x1 x2 x3 : Int32) : Nat → Mm → Int32 → OR
  | 0, _, _ => none
  | k + 1, M, x4 => if x4 < 9 then obn (f_X9_put a0 M x3 x4 0) fun _ M1 => (l_X9_section_49 a0 x1 x2 x3 k M1 (x4 + 1)) else obn (f_X9_put a0 M x3 0 x1) fun _ M4 => (obn (f_X9_put a0 M4 x3 1 (2 * x2)) fun _ M7 => (obn (f_X9_put a0 M7 x3 8 x2) fun _ M10 => (ckd 0 233 (ckd 0 233 (bnd (mst M10 (a0 + 1) (ix 0) ((M10 (a0 + 1) (ix 0)) + 1)) fun M13 => some (x3, M13))))))
def f_X9_section (a0 : Nat) (M : Mm) (x1 x2 : Int32) : OR := obn (f_X9_in M x1 1 9) fun q3 M1 => (if q3 = 0 then b_X9_section_19 a0 M1 else obn (f_X9_in M1 x2 0 1) fun q6 M4 => (if q6 = 0 then b_X9_section_19 a0 M4 else ckd 0 233 (if (M4 (a0 + 1) (ix 0)) = 10 then some ((-3), M4) else obn (f_X9_records a0 M4) fun _ M7 => (ckd 0 233 (bnd (M7 (a0 + 1) (ix 0)) fun v10 => l_X9_section_49 a0 x1 x2 v10 FU M7 0)))))
set_option maxHeartbeats 4000000 in
set_option maxRecDepth 100000 in
theorem w_X9_section_19 {l : Launch} {w : Wp} {L : Ly} {E : Cx} {a0 : Nat} {R0 : Int32 × Mm} (cx : Ok w L E RX9 cX9_section 5 1) (en : En w L E (some .int) R0) (h0 : LTramWiresModel w L (a0)) {M : Mm} (hf : b_X9_section_19 a0 M = some R0) : G l w L E M [] 19 [] := by
  unfold b_X9_section_19 at hf
  refine g_iconst (pc := 19) (v := (-1)) cx dX9_section_19 (by decide) ?_
  exact g_iret (pc := 20) cx en dX9_section_20 rfl hf
set_option maxHeartbeats 4000000 in
set_option maxRecDepth 100000 in
theorem w_X9_section_49 {l : Launch} {w : Wp} {L : Ly} {E : Cx} {a0 : Nat} {x1 x2 x3 : Int32} {R0 : Int32 × Mm} (cx : Ok w L E RX9 cX9_section 5 1) (en : En w L E (some .int) R0) (h0 : LTramWiresModel w L (a0)) : ∀ (k : Nat) {M : Mm} {x4 : Int32}, l_X9_section_49 a0 x1 x2 x3 k M x4 = some R0 → G l w L E M [(0, .ref a0), (1, .int x1), (2, .int x2), (3, .int x3), (4, .int x4)] 49 [] := by
  intro k
  induction k with
  | zero =>
    intro M x4 hf
    exact absurd hf (by simp [l_X9_section_49])
  | succ k ih =>
    intro M x4 hf
    unfold l_X9_section_49 at hf
    refine g_iload (pc := 49) cx dX9_section_49 4 rfl ?_
    refine g_bipush (pc := 51) (v := 9) cx dX9_section_51 (by decide) ?_
    refine g_icmp_ge (pc := 53) (tgt := 70) cx dX9_section_53 rfl hf (fun hf => ?_) (fun hf => ?_)
    · refine g_aload_n (pc := 56) cx dX9_section_56 rfl 0 rfl ?_
      refine g_iload_n (pc := 57) cx dX9_section_57 rfl 3 rfl ?_
      refine g_iload (pc := 58) cx dX9_section_58 4 rfl ?_
      refine g_iconst (pc := 60) (v := 0) cx dX9_section_60 (by decide) ?_
      obtain ⟨q3, M1, hc2, hf⟩ := obn_some2 hf
      refine g_callVv (pc := 61) [.int x3, .int x4, .int 0] [] cx lk_X9_76 vw_X9 (LTramWiresModel_o h0) (by decide) (c_X9_put h0 hc2) dX9_section_61 (Nat.le_of_ble_eq_true rfl) ?_
      refine g_iinc (pc := 64) cx [(4, .int (x4 + 1)), (0, .ref a0), (1, .int x1), (2, .int x2), (3, .int x3)] dX9_section_64 4 rfl rfl (by decide) rfl ?_
      refine g_goto (pc := 67) (tgt := 49) cx dX9_section_67 rfl ?_
      refine g_sub [1, 2, 3, 4, 0] [(0, .ref a0), (1, .int x1), (2, .int x2), (3, .int x3), (4, .int (x4 + 1))] rfl ?_
      exact ih hf
    · refine g_aload_n (pc := 70) cx dX9_section_70 rfl 0 rfl ?_
      refine g_iload_n (pc := 71) cx dX9_section_71 rfl 3 rfl ?_
      refine g_iconst (pc := 72) (v := 0) cx dX9_section_72 (by decide) ?_
      refine g_iload_n (pc := 73) cx dX9_section_73 rfl 1 rfl ?_
      obtain ⟨q6, M4, hc5, hf⟩ := obn_some2 hf
      refine g_callVv (pc := 74) [.int x3, .int 0, .int x1] [] cx lk_X9_76 vw_X9 (LTramWiresModel_o h0) (by decide) (c_X9_put h0 hc5) dX9_section_74 (Nat.le_of_ble_eq_true rfl) ?_
      refine g_aload_n (pc := 77) cx dX9_section_77 rfl 0 rfl ?_
      refine g_iload_n (pc := 78) cx dX9_section_78 rfl 3 rfl ?_
      refine g_iconst (pc := 79) (v := 1) cx dX9_section_79 (by decide) ?_
      refine g_iconst (pc := 80) (v := 2) cx dX9_section_80 (by decide) ?_
      refine g_iload_n (pc := 81) cx dX9_section_81 rfl 2 rfl ?_
      refine g_imul (pc := 82) cx dX9_section_82 ?_
      obtain ⟨q9, M7, hc8, hf⟩ := obn_some2 hf
      refine g_callVv (pc := 83) [.int x3, .int 1, .int (2 * x2)] [] cx lk_X9_76 vw_X9 (LTramWiresModel_o h0) (by decide) (c_X9_put h0 hc8) dX9_section_83 (Nat.le_of_ble_eq_true rfl) ?_
      refine g_aload_n (pc := 86) cx dX9_section_86 rfl 0 rfl ?_
      refine g_iload_n (pc := 87) cx dX9_section_87 rfl 3 rfl ?_
      refine g_bipush (pc := 88) (v := 8) cx dX9_section_88 (by decide) ?_
      refine g_iload_n (pc := 90) cx dX9_section_90 rfl 2 rfl ?_
      obtain ⟨q12, M10, hc11, hf⟩ := obn_some2 hf
      refine g_callVv (pc := 91) [.int x3, .int 8, .int x2] [] cx lk_X9_76 vw_X9 (LTramWiresModel_o h0) (by decide) (c_X9_put h0 hc11) dX9_section_91 (Nat.le_of_ble_eq_true rfl) ?_
      refine g_aload_n (pc := 94) cx dX9_section_94 rfl 0 rfl ?_
      refine fg_X9_7 (pc := 95) cx dX9_section_95 h0 ?_
      refine g_iconst (pc := 98) (v := 0) cx dX9_section_98 (by decide) ?_
      refine g_dup2 (pc := 99) cx dX9_section_99 rfl rfl ?_
      refine g_iald (pc := 100) cx (LTramWiresModel_st h0) dX9_section_100 hf (fun hf => ?_)
      refine g_iconst (pc := 101) (v := 1) cx dX9_section_101 (by decide) ?_
      refine g_iadd (pc := 102) cx dX9_section_102 ?_
      refine g_iast (pc := 103) cx (LTramWiresModel_st h0) dX9_section_103 hf (fun M13 hf => ?_)
      refine g_iload_n (pc := 104) cx dX9_section_104 rfl 3 rfl ?_
      exact g_iret (pc := 105) cx en dX9_section_105 rfl hf
set_option maxHeartbeats 4000000 in
set_option maxRecDepth 100000 in
theorem c_X9_section {l : Launch} {w : Wp} {L : Ly} {a0 : Nat} {M : Mm} {x1 x2 : Int32} {R0 : Int32 × Mm} (h0 : LTramWiresModel w L (a0)) (hf : f_X9_section a0 M x1 x2 = some R0) : CT l w L yX9_section cX9_section 5 (some .int) 1 [.ref a0, .int x1, .int x2] M R0 := by
  unfold f_X9_section at hf
  refine CT_of pn_X9 (Nat.le_of_ble_eq_true rfl) (fun E cx en => ?_)
  have cx : Ok w L E RX9 cX9_section 5 1 := cx
  show G l w L E M [(0, .ref a0), (1, .int x1), (2, .int x2)] 0 []
  refine g_iload_n (pc := 0) cx dX9_section_0 rfl 1 rfl ?_
  refine g_iconst (pc := 1) (v := 1) cx dX9_section_1 (by decide) ?_
  refine g_bipush (pc := 2) (v := 9) cx dX9_section_2 (by decide) ?_
  obtain ⟨q3, M1, hc2, hf⟩ := obn_some2 hf
  refine g_callSi (pc := 4) [.int x1, .int 1, .int 9] [] cx lk_X9_25 (by decide) (c_X9_in hc2) dX9_section_4 (Nat.le_of_ble_eq_true rfl) ?_
  refine g_if_eq (pc := 7) (tgt := 19) cx dX9_section_7 rfl hf (fun hf => ?_) (fun hf => ?_)
  · refine g_sub [] [] rfl ?_
    exact w_X9_section_19 cx en h0 hf
  · refine g_iload_n (pc := 10) cx dX9_section_10 rfl 2 rfl ?_
    refine g_iconst (pc := 11) (v := 0) cx dX9_section_11 (by decide) ?_
    refine g_iconst (pc := 12) (v := 1) cx dX9_section_12 (by decide) ?_
    obtain ⟨q6, M4, hc5, hf⟩ := obn_some2 hf
    refine g_callSi (pc := 13) [.int x2, .int 0, .int 1] [] cx lk_X9_25 (by decide) (c_X9_in hc5) dX9_section_13 (Nat.le_of_ble_eq_true rfl) ?_
    refine g_if_ne (pc := 16) (tgt := 21) cx dX9_section_16 rfl hf (fun hf => ?_) (fun hf => ?_)
    · refine g_sub [] [] rfl ?_
      exact w_X9_section_19 cx en h0 hf
    · refine g_aload_n (pc := 21) cx dX9_section_21 rfl 0 rfl ?_
      refine fg_X9_7 (pc := 22) cx dX9_section_22 h0 ?_
      refine g_iconst (pc := 25) (v := 0) cx dX9_section_25 (by decide) ?_
      refine g_iald (pc := 26) cx (LTramWiresModel_st h0) dX9_section_26 hf (fun hf => ?_)
      refine g_bipush (pc := 27) (v := 10) cx dX9_section_27 (by decide) ?_
      refine g_icmp_ne (pc := 29) (tgt := 35) cx dX9_section_29 rfl hf (fun hf => ?_) (fun hf => ?_)
      · refine g_bipush (pc := 32) (v := (-3)) cx dX9_section_32 (by decide) ?_
        exact g_iret (pc := 34) cx en dX9_section_34 rfl hf
      · refine g_aload_n (pc := 35) cx dX9_section_35 rfl 0 rfl ?_
        obtain ⟨q9, M7, hc8, hf⟩ := obn_some2 hf
        refine g_callVv (pc := 36) [] [] cx lk_X9_73 vw_X9 (LTramWiresModel_o h0) (by decide) (c_X9_records h0 hc8) dX9_section_36 (Nat.le_of_ble_eq_true rfl) ?_
        refine g_aload_n (pc := 39) cx dX9_section_39 rfl 0 rfl ?_
        refine fg_X9_7 (pc := 40) cx dX9_section_40 h0 ?_
        refine g_iconst (pc := 43) (v := 0) cx dX9_section_43 (by decide) ?_
        refine g_iald (pc := 44) cx (LTramWiresModel_st h0) dX9_section_44 hf (fun hf => ?_)
        refine g_nm hf (fun v10 hf => ?_)
        refine g_istore_n (pc := 45) cx [(3, .int v10), (0, .ref a0), (1, .int x1), (2, .int x2)] dX9_section_45 rfl (by decide) rfl ?_
        refine g_iconst (pc := 46) (v := 0) cx dX9_section_46 (by decide) ?_
        refine g_istore (pc := 47) cx [(4, .int 0), (3, .int v10), (0, .ref a0), (1, .int x1), (2, .int x2)] dX9_section_47 (by decide) rfl ?_
        refine g_sub [2, 3, 4, 1, 0] [(0, .ref a0), (1, .int x1), (2, .int x2), (3, .int v10), (4, .int 0)] rfl ?_
        exact w_X9_section_49 cx en h0 FU hf
/-! X9_against -/
def b_X9_against_36 (a0 : Nat) (M : Mm) (s0 : Int32) : OR := some (s0, M)
def f_X9_against (a0 : Nat) (M : Mm) (x1 x2 : Int32) : OR := bnd (x2 &&& (x1 ^^^ (-1))) fun v1 => obn (f_X9_with a0 M 3) fun q4 M2 => (if (v1 &&& q4) = 0 then obn (f_X9_with a0 M2 7) fun q7 M5 => (if (v1 &&& q7) = 0 then b_X9_against_36 a0 M5 0 else b_X9_against_36 a0 M5 2) else b_X9_against_36 a0 M2 1)
set_option maxHeartbeats 4000000 in
set_option maxRecDepth 100000 in
theorem w_X9_against_36 {l : Launch} {w : Wp} {L : Ly} {E : Cx} {a0 : Nat} {s0 : Int32} {R0 : Int32 × Mm} (cx : Ok w L E RX9 cX9_against 4 2) (en : En w L E (some .int) R0) (h0 : LTramWiresModel w L (a0)) {M : Mm} (hf : b_X9_against_36 a0 M s0 = some R0) : G l w L E M [] 36 [.int s0] := by
  unfold b_X9_against_36 at hf
  exact g_iret (pc := 36) cx en dX9_against_36 rfl hf
set_option maxHeartbeats 4000000 in
set_option maxRecDepth 100000 in
theorem c_X9_against {l : Launch} {w : Wp} {L : Ly} {a0 : Nat} {M : Mm} {x1 x2 : Int32} {R0 : Int32 × Mm} (h0 : LTramWiresModel w L (a0)) (hf : f_X9_against a0 M x1 x2 = some R0) : CT l w L yX9_against cX9_against 4 (some .int) 2 [.ref a0, .int x1, .int x2] M R0 := by
  unfold f_X9_against at hf
  refine CT_of pn_X9 (Nat.le_of_ble_eq_true rfl) (fun E cx en => ?_)
  have cx : Ok w L E RX9 cX9_against 4 2 := cx
  show G l w L E M [(0, .ref a0), (1, .int x1), (2, .int x2)] 0 []
  refine g_iload_n (pc := 0) cx dX9_against_0 rfl 2 rfl ?_
  refine g_iload_n (pc := 1) cx dX9_against_1 rfl 1 rfl ?_
  refine g_iconst (pc := 2) (v := (-1)) cx dX9_against_2 (by decide) ?_
  refine g_ixor (pc := 3) cx dX9_against_3 ?_
  refine g_iand (pc := 4) cx dX9_against_4 ?_
  refine g_nm hf (fun v1 hf => ?_)
  refine g_istore_n (pc := 5) cx [(3, .int v1), (0, .ref a0), (1, .int x1), (2, .int x2)] dX9_against_5 rfl (by decide) rfl ?_
  refine g_iload_n (pc := 6) cx dX9_against_6 rfl 0 rfl ?_
  refine g_aload_n (pc := 7) cx dX9_against_7 rfl 1 rfl ?_
  refine g_iconst (pc := 8) (v := 3) cx dX9_against_8 (by decide) ?_
  obtain ⟨q4, M2, hc3, hf⟩ := obn_some2 hf
  refine g_callVi (pc := 9) [.int 3] [.int v1] cx lk_X9_40 vw_X9 (LTramWiresModel_o h0) (by decide) (c_X9_with h0 hc3) dX9_against_9 (Nat.le_of_ble_eq_true rfl) ?_
  refine g_iand (pc := 12) cx dX9_against_12 ?_
  refine g_if_eq (pc := 13) (tgt := 20) cx dX9_against_13 rfl hf (fun hf => ?_) (fun hf => ?_)
  · refine g_iload_n (pc := 20) cx dX9_against_20 rfl 0 rfl ?_
    refine g_aload_n (pc := 21) cx dX9_against_21 rfl 1 rfl ?_
    refine g_bipush (pc := 22) (v := 7) cx dX9_against_22 (by decide) ?_
    obtain ⟨q7, M5, hc6, hf⟩ := obn_some2 hf
    refine g_callVi (pc := 24) [.int 7] [.int v1] cx lk_X9_40 vw_X9 (LTramWiresModel_o h0) (by decide) (c_X9_with h0 hc6) dX9_against_24 (Nat.le_of_ble_eq_true rfl) ?_
    refine g_iand (pc := 27) cx dX9_against_27 ?_
    refine g_if_eq (pc := 28) (tgt := 35) cx dX9_against_28 rfl hf (fun hf => ?_) (fun hf => ?_)
    · refine g_iconst (pc := 35) (v := 0) cx dX9_against_35 (by decide) ?_
      refine g_sub [] [] rfl ?_
      exact w_X9_against_36 cx en h0 hf
    · refine g_iconst (pc := 31) (v := 2) cx dX9_against_31 (by decide) ?_
      refine g_goto (pc := 32) (tgt := 36) cx dX9_against_32 rfl ?_
      refine g_sub [] [] rfl ?_
      exact w_X9_against_36 cx en h0 hf
  · refine g_iconst (pc := 16) (v := 1) cx dX9_against_16 (by decide) ?_
    refine g_goto (pc := 17) (tgt := 36) cx dX9_against_17 rfl ?_
    refine g_sub [] [] rfl ?_
    exact w_X9_against_36 cx en h0 hf
/-! X9_newIsolator -/
def f_X9_newIsolator (a0 : Nat) (M : Mm) (x1 x2 : Int32) : OR := ckd 1 233 (bnd (M (a0 + 1) (ix 1)) fun v1 => obn (f_X9_lay a0 M v1 0 x1) fun _ M2 => (obn (f_X9_lay a0 M2 v1 1 x2) fun _ M5 => (obn (f_X9_lay a0 M5 v1 2 1) fun _ M8 => (obn (f_X9_lay a0 M8 v1 3 1) fun _ M11 => (ckd 1 233 (ckd 1 233 (bnd (mst M11 (a0 + 1) (ix 1) ((M11 (a0 + 1) (ix 1)) + 1)) fun M14 => some (0, M14))))))))
set_option maxHeartbeats 4000000 in
set_option maxRecDepth 100000 in
theorem c_X9_newIsolator {l : Launch} {w : Wp} {L : Ly} {a0 : Nat} {M : Mm} {x1 x2 : Int32} {R0 : Int32 × Mm} (h0 : LTramWiresModel w L (a0)) (hf : f_X9_newIsolator a0 M x1 x2 = some R0) : CT l w L yX9_newIsolator cX9_newIsolator 4 none 1 [.ref a0, .int x1, .int x2] M R0 := by
  unfold f_X9_newIsolator at hf
  refine CT_of pn_X9 (Nat.le_of_ble_eq_true rfl) (fun E cx en => ?_)
  have cx : Ok w L E RX9 cX9_newIsolator 4 1 := cx
  show G l w L E M [(0, .ref a0), (1, .int x1), (2, .int x2)] 0 []
  refine g_aload_n (pc := 0) cx dX9_newIsolator_0 rfl 0 rfl ?_
  refine fg_X9_7 (pc := 1) cx dX9_newIsolator_1 h0 ?_
  refine g_iconst (pc := 4) (v := 1) cx dX9_newIsolator_4 (by decide) ?_
  refine g_iald (pc := 5) cx (LTramWiresModel_st h0) dX9_newIsolator_5 hf (fun hf => ?_)
  refine g_nm hf (fun v1 hf => ?_)
  refine g_istore_n (pc := 6) cx [(3, .int v1), (0, .ref a0), (1, .int x1), (2, .int x2)] dX9_newIsolator_6 rfl (by decide) rfl ?_
  refine g_aload_n (pc := 7) cx dX9_newIsolator_7 rfl 1 rfl ?_
  refine g_iload_n (pc := 8) cx dX9_newIsolator_8 rfl 0 rfl ?_
  refine g_iconst (pc := 9) (v := 0) cx dX9_newIsolator_9 (by decide) ?_
  refine g_iload_n (pc := 10) cx dX9_newIsolator_10 rfl 2 rfl ?_
  obtain ⟨q4, M2, hc3, hf⟩ := obn_some2 hf
  refine g_callVv (pc := 11) [.int v1, .int 0, .int x1] [] cx lk_X9_80 vw_X9 (LTramWiresModel_o h0) (by decide) (c_X9_lay h0 hc3) dX9_newIsolator_11 (Nat.le_of_ble_eq_true rfl) ?_
  refine g_aload_n (pc := 14) cx dX9_newIsolator_14 rfl 1 rfl ?_
  refine g_iload_n (pc := 15) cx dX9_newIsolator_15 rfl 0 rfl ?_
  refine g_iconst (pc := 16) (v := 1) cx dX9_newIsolator_16 (by decide) ?_
  refine g_iload_n (pc := 17) cx dX9_newIsolator_17 rfl 3 rfl ?_
  obtain ⟨q7, M5, hc6, hf⟩ := obn_some2 hf
  refine g_callVv (pc := 18) [.int v1, .int 1, .int x2] [] cx lk_X9_80 vw_X9 (LTramWiresModel_o h0) (by decide) (c_X9_lay h0 hc6) dX9_newIsolator_18 (Nat.le_of_ble_eq_true rfl) ?_
  refine g_aload_n (pc := 21) cx dX9_newIsolator_21 rfl 1 rfl ?_
  refine g_iload_n (pc := 22) cx dX9_newIsolator_22 rfl 0 rfl ?_
  refine g_iconst (pc := 23) (v := 2) cx dX9_newIsolator_23 (by decide) ?_
  refine g_iconst (pc := 24) (v := 1) cx dX9_newIsolator_24 (by decide) ?_
  obtain ⟨q10, M8, hc9, hf⟩ := obn_some2 hf
  refine g_callVv (pc := 25) [.int v1, .int 2, .int 1] [] cx lk_X9_80 vw_X9 (LTramWiresModel_o h0) (by decide) (c_X9_lay h0 hc9) dX9_newIsolator_25 (Nat.le_of_ble_eq_true rfl) ?_
  refine g_aload_n (pc := 28) cx dX9_newIsolator_28 rfl 1 rfl ?_
  refine g_iload_n (pc := 29) cx dX9_newIsolator_29 rfl 0 rfl ?_
  refine g_iconst (pc := 30) (v := 3) cx dX9_newIsolator_30 (by decide) ?_
  refine g_iconst (pc := 31) (v := 1) cx dX9_newIsolator_31 (by decide) ?_
  obtain ⟨q13, M11, hc12, hf⟩ := obn_some2 hf
  refine g_callVv (pc := 32) [.int v1, .int 3, .int 1] [] cx lk_X9_80 vw_X9 (LTramWiresModel_o h0) (by decide) (c_X9_lay h0 hc12) dX9_newIsolator_32 (Nat.le_of_ble_eq_true rfl) ?_
  refine g_aload_n (pc := 35) cx dX9_newIsolator_35 rfl 1 rfl ?_
  refine fg_X9_7 (pc := 36) cx dX9_newIsolator_36 h0 ?_
  refine g_iconst (pc := 39) (v := 1) cx dX9_newIsolator_39 (by decide) ?_
  refine g_dup2 (pc := 40) cx dX9_newIsolator_40 rfl rfl ?_
  refine g_iald (pc := 41) cx (LTramWiresModel_st h0) dX9_newIsolator_41 hf (fun hf => ?_)
  refine g_iconst (pc := 42) (v := 1) cx dX9_newIsolator_42 (by decide) ?_
  refine g_iadd (pc := 43) cx dX9_newIsolator_43 ?_
  refine g_iast (pc := 44) cx (LTramWiresModel_st h0) dX9_newIsolator_44 hf (fun M14 hf => ?_)
  exact g_vret (pc := 45) cx en dX9_newIsolator_45 hf
/-! X9_mayJoin -/
def b_X9_mayJoin_50 (a0 : Nat) (M : Mm) (s0 : Int32) : OR := zrk s0 (some (s0, M))
def b_X9_mayJoin_39 (a0 : Nat) (M : Mm) (s1 s2 : Int32) : OR := obn (f_X9_against a0 M s1 s2) fun q3 M1 => (if q3 = 0 then b_X9_mayJoin_50 a0 M1 1 else b_X9_mayJoin_50 a0 M1 0)
def f_X9_mayJoin (a0 : Nat) (M : Mm) (x1 x2 : Int32) : OR := obn (f_X9_liveNow a0 M) fun q3 M1 => (obn (f_X9_closedOnes a0 M1) fun q6 M4 => (obn (f_X9_hanging a0 M4 ((1 <<< (x1 &&& 31)) ||| (1 <<< (x2 &&& 31))) q6) fun q9 M7 => (if (q9 &&& q3) = 0 then b_X9_mayJoin_39 a0 M7 q3 q3 else b_X9_mayJoin_39 a0 M7 q3 (q3 ||| q9))))
set_option maxHeartbeats 4000000 in
set_option maxRecDepth 100000 in
theorem w_X9_mayJoin_50 {l : Launch} {w : Wp} {L : Ly} {E : Cx} {a0 : Nat} {s0 : Int32} {R0 : Int32 × Mm} (cx : Ok w L E RX9 cX9_mayJoin 5 4) (en : En w L E (some .boolean) R0) (h0 : LTramWiresModel w L (a0)) {M : Mm} (hf : b_X9_mayJoin_50 a0 M s0 = some R0) : G l w L E M [] 50 [.int s0] := by
  unfold b_X9_mayJoin_50 at hf
  exact g_zret (pc := 50) cx en dX9_mayJoin_50 hf
set_option maxHeartbeats 4000000 in
set_option maxRecDepth 100000 in
theorem w_X9_mayJoin_39 {l : Launch} {w : Wp} {L : Ly} {E : Cx} {a0 : Nat} {s1 s2 : Int32} {R0 : Int32 × Mm} (cx : Ok w L E RX9 cX9_mayJoin 5 4) (en : En w L E (some .boolean) R0) (h0 : LTramWiresModel w L (a0)) {M : Mm} (hf : b_X9_mayJoin_39 a0 M s1 s2 = some R0) : G l w L E M [] 39 [.int s2, .int s1, .ref a0] := by
  unfold b_X9_mayJoin_39 at hf
  obtain ⟨q3, M1, hc2, hf⟩ := obn_some2 hf
  refine g_callVi (pc := 39) [.int s1, .int s2] [] cx lk_X9_83 vw_X9 (LTramWiresModel_o h0) (by decide) (c_X9_against h0 hc2) dX9_mayJoin_39 (Nat.le_of_ble_eq_true rfl) ?_
  refine g_if_ne (pc := 42) (tgt := 49) cx dX9_mayJoin_42 rfl hf (fun hf => ?_) (fun hf => ?_)
  · refine g_iconst (pc := 45) (v := 1) cx dX9_mayJoin_45 (by decide) ?_
    refine g_goto (pc := 46) (tgt := 50) cx dX9_mayJoin_46 rfl ?_
    exact w_X9_mayJoin_50 cx en h0 hf
  · refine g_iconst (pc := 49) (v := 0) cx dX9_mayJoin_49 (by decide) ?_
    exact w_X9_mayJoin_50 cx en h0 hf
set_option maxHeartbeats 4000000 in
set_option maxRecDepth 100000 in
theorem c_X9_mayJoin {l : Launch} {w : Wp} {L : Ly} {a0 : Nat} {M : Mm} {x1 x2 : Int32} {R0 : Int32 × Mm} (h0 : LTramWiresModel w L (a0)) (hf : f_X9_mayJoin a0 M x1 x2 = some R0) : CT l w L yX9_mayJoin cX9_mayJoin 5 (some .boolean) 4 [.ref a0, .int x1, .int x2] M R0 := by
  unfold f_X9_mayJoin at hf
  refine CT_of pn_X9 (Nat.le_of_ble_eq_true rfl) (fun E cx en => ?_)
  have cx : Ok w L E RX9 cX9_mayJoin 5 4 := cx
  show G l w L E M [(0, .ref a0), (1, .int x1), (2, .int x2)] 0 []
  refine g_aload_n (pc := 0) cx dX9_mayJoin_0 rfl 0 rfl ?_
  obtain ⟨q3, M1, hc2, hf⟩ := obn_some2 hf
  refine g_callVi (pc := 1) [] [] cx lk_X9_57 vw_X9 (LTramWiresModel_o h0) (by decide) (c_X9_liveNow h0 hc2) dX9_mayJoin_1 (Nat.le_of_ble_eq_true rfl) ?_
  refine g_istore_n (pc := 4) cx [(3, .int q3), (0, .ref a0), (1, .int x1), (2, .int x2)] dX9_mayJoin_4 rfl (by decide) rfl ?_
  refine g_aload_n (pc := 5) cx dX9_mayJoin_5 rfl 1 rfl ?_
  refine g_iconst (pc := 6) (v := 1) cx dX9_mayJoin_6 (by decide) ?_
  refine g_iload_n (pc := 7) cx dX9_mayJoin_7 rfl 2 rfl ?_
  refine g_ishl (pc := 8) cx dX9_mayJoin_8 ?_
  refine g_iconst (pc := 9) (v := 1) cx dX9_mayJoin_9 (by decide) ?_
  refine g_iload_n (pc := 10) cx dX9_mayJoin_10 rfl 3 rfl ?_
  refine g_ishl (pc := 11) cx dX9_mayJoin_11 ?_
  refine g_ior (pc := 12) cx dX9_mayJoin_12 ?_
  refine g_aload_n (pc := 13) cx dX9_mayJoin_13 rfl 1 rfl ?_
  obtain ⟨q6, M4, hc5, hf⟩ := obn_some2 hf
  refine g_callVi (pc := 14) [] [.int ((1 <<< (x1 &&& 31)) ||| (1 <<< (x2 &&& 31))), .ref a0] cx lk_X9_51 vw_X9 (LTramWiresModel_o h0) (by decide) (c_X9_closedOnes h0 hc5) dX9_mayJoin_14 (Nat.le_of_ble_eq_true rfl) ?_
  obtain ⟨q9, M7, hc8, hf⟩ := obn_some2 hf
  refine g_callVi (pc := 17) [.int ((1 <<< (x1 &&& 31)) ||| (1 <<< (x2 &&& 31))), .int q6] [] cx lk_X9_44 vw_X9 (LTramWiresModel_o h0) (by decide) (c_X9_hanging h0 hc8) dX9_mayJoin_17 (Nat.le_of_ble_eq_true rfl) ?_
  refine g_istore (pc := 20) cx [(4, .int q9), (3, .int q3), (0, .ref a0), (1, .int x1), (2, .int x2)] dX9_mayJoin_20 (by decide) rfl ?_
  refine g_aload_n (pc := 22) cx dX9_mayJoin_22 rfl 2 rfl ?_
  refine g_iload_n (pc := 23) cx dX9_mayJoin_23 rfl 1 rfl ?_
  refine g_iload (pc := 24) cx dX9_mayJoin_24 0 rfl ?_
  refine g_iload_n (pc := 26) cx dX9_mayJoin_26 rfl 1 rfl ?_
  refine g_iand (pc := 27) cx dX9_mayJoin_27 ?_
  refine g_if_eq (pc := 28) (tgt := 38) cx dX9_mayJoin_28 rfl hf (fun hf => ?_) (fun hf => ?_)
  · refine g_iload_n (pc := 38) cx dX9_mayJoin_38 rfl 1 rfl ?_
    refine g_sub [] [] rfl ?_
    exact w_X9_mayJoin_39 cx en h0 hf
  · refine g_iload_n (pc := 31) cx dX9_mayJoin_31 rfl 1 rfl ?_
    refine g_iload (pc := 32) cx dX9_mayJoin_32 0 rfl ?_
    refine g_ior (pc := 34) cx dX9_mayJoin_34 ?_
    refine g_goto (pc := 35) (tgt := 39) cx dX9_mayJoin_35 rfl ?_
    refine g_sub [] [] rfl ?_
    exact w_X9_mayJoin_39 cx en h0 hf
/-! X9_isolator -/
def b_X9_isolator_21 (a0 : Nat) (M : Mm) : OR := some ((-1), M)
def f_X9_isolator (a0 : Nat) (M : Mm) (x1 x2 : Int32) : OR := obn (f_X9_isSection a0 M x1) fun q3 M1 => (if q3 = 0 then b_X9_isolator_21 a0 M1 else obn (f_X9_isSection a0 M1 x2) fun q6 M4 => (if q6 = 0 then b_X9_isolator_21 a0 M4 else if x1 = x2 then b_X9_isolator_21 a0 M4 else obn (f_X9_mayJoin a0 M4 x1 x2) fun q9 M7 => (if q9 = 0 then some ((-2), M7) else ckd 1 233 (if (M7 (a0 + 1) (ix 1)) = 16 then some ((-3), M7) else obn (f_X9_records a0 M7) fun _ M10 => (obn (f_X9_newIsolator a0 M10 x1 x2) fun _ M13 => (ckd 1 233 (some (((M13 (a0 + 1) (ix 1)) - 1), M13))))))))
set_option maxHeartbeats 4000000 in
set_option maxRecDepth 100000 in
theorem w_X9_isolator_21 {l : Launch} {w : Wp} {L : Ly} {E : Cx} {a0 : Nat} {R0 : Int32 × Mm} (cx : Ok w L E RX9 cX9_isolator 3 5) (en : En w L E (some .int) R0) (h0 : LTramWiresModel w L (a0)) {M : Mm} (hf : b_X9_isolator_21 a0 M = some R0) : G l w L E M [] 21 [] := by
  unfold b_X9_isolator_21 at hf
  refine g_iconst (pc := 21) (v := (-1)) cx dX9_isolator_21 (by decide) ?_
  exact g_iret (pc := 22) cx en dX9_isolator_22 rfl hf
set_option maxHeartbeats 4000000 in
set_option maxRecDepth 100000 in
theorem c_X9_isolator {l : Launch} {w : Wp} {L : Ly} {a0 : Nat} {M : Mm} {x1 x2 : Int32} {R0 : Int32 × Mm} (h0 : LTramWiresModel w L (a0)) (hf : f_X9_isolator a0 M x1 x2 = some R0) : CT l w L yX9_isolator cX9_isolator 3 (some .int) 5 [.ref a0, .int x1, .int x2] M R0 := by
  unfold f_X9_isolator at hf
  refine CT_of pn_X9 (Nat.le_of_ble_eq_true rfl) (fun E cx en => ?_)
  have cx : Ok w L E RX9 cX9_isolator 3 5 := cx
  show G l w L E M [(0, .ref a0), (1, .int x1), (2, .int x2)] 0 []
  refine g_aload_n (pc := 0) cx dX9_isolator_0 rfl 0 rfl ?_
  refine g_iload_n (pc := 1) cx dX9_isolator_1 rfl 1 rfl ?_
  obtain ⟨q3, M1, hc2, hf⟩ := obn_some2 hf
  refine g_callVi (pc := 2) [.int x1] [] cx lk_X9_86 vw_X9 (LTramWiresModel_o h0) (by decide) (c_X9_isSection h0 hc2) dX9_isolator_2 (Nat.le_of_ble_eq_true rfl) ?_
  refine g_if_eq (pc := 5) (tgt := 21) cx dX9_isolator_5 rfl hf (fun hf => ?_) (fun hf => ?_)
  · refine g_sub [] [] rfl ?_
    exact w_X9_isolator_21 cx en h0 hf
  · refine g_aload_n (pc := 8) cx dX9_isolator_8 rfl 0 rfl ?_
    refine g_iload_n (pc := 9) cx dX9_isolator_9 rfl 2 rfl ?_
    obtain ⟨q6, M4, hc5, hf⟩ := obn_some2 hf
    refine g_callVi (pc := 10) [.int x2] [] cx lk_X9_86 vw_X9 (LTramWiresModel_o h0) (by decide) (c_X9_isSection h0 hc5) dX9_isolator_10 (Nat.le_of_ble_eq_true rfl) ?_
    refine g_if_eq (pc := 13) (tgt := 21) cx dX9_isolator_13 rfl hf (fun hf => ?_) (fun hf => ?_)
    · refine g_sub [] [] rfl ?_
      exact w_X9_isolator_21 cx en h0 hf
    · refine g_iload_n (pc := 16) cx dX9_isolator_16 rfl 1 rfl ?_
      refine g_iload_n (pc := 17) cx dX9_isolator_17 rfl 2 rfl ?_
      refine g_icmp_ne (pc := 18) (tgt := 23) cx dX9_isolator_18 rfl hf (fun hf => ?_) (fun hf => ?_)
      · refine g_sub [] [] rfl ?_
        exact w_X9_isolator_21 cx en h0 hf
      · refine g_aload_n (pc := 23) cx dX9_isolator_23 rfl 0 rfl ?_
        refine g_iload_n (pc := 24) cx dX9_isolator_24 rfl 1 rfl ?_
        refine g_iload_n (pc := 25) cx dX9_isolator_25 rfl 2 rfl ?_
        obtain ⟨q9, M7, hc8, hf⟩ := obn_some2 hf
        refine g_callVi (pc := 26) [.int x1, .int x2] [] cx lk_X9_90 vw_X9 (LTramWiresModel_o h0) (by decide) (c_X9_mayJoin h0 hc8) dX9_isolator_26 (Nat.le_of_ble_eq_true rfl) ?_
        refine g_if_ne (pc := 29) (tgt := 35) cx dX9_isolator_29 rfl hf (fun hf => ?_) (fun hf => ?_)
        · refine g_bipush (pc := 32) (v := (-2)) cx dX9_isolator_32 (by decide) ?_
          exact g_iret (pc := 34) cx en dX9_isolator_34 rfl hf
        · refine g_aload_n (pc := 35) cx dX9_isolator_35 rfl 0 rfl ?_
          refine fg_X9_7 (pc := 36) cx dX9_isolator_36 h0 ?_
          refine g_iconst (pc := 39) (v := 1) cx dX9_isolator_39 (by decide) ?_
          refine g_iald (pc := 40) cx (LTramWiresModel_st h0) dX9_isolator_40 hf (fun hf => ?_)
          refine g_bipush (pc := 41) (v := 16) cx dX9_isolator_41 (by decide) ?_
          refine g_icmp_ne (pc := 43) (tgt := 49) cx dX9_isolator_43 rfl hf (fun hf => ?_) (fun hf => ?_)
          · refine g_bipush (pc := 46) (v := (-3)) cx dX9_isolator_46 (by decide) ?_
            exact g_iret (pc := 48) cx en dX9_isolator_48 rfl hf
          · refine g_aload_n (pc := 49) cx dX9_isolator_49 rfl 0 rfl ?_
            obtain ⟨q12, M10, hc11, hf⟩ := obn_some2 hf
            refine g_callVv (pc := 50) [] [] cx lk_X9_73 vw_X9 (LTramWiresModel_o h0) (by decide) (c_X9_records h0 hc11) dX9_isolator_50 (Nat.le_of_ble_eq_true rfl) ?_
            refine g_aload_n (pc := 53) cx dX9_isolator_53 rfl 0 rfl ?_
            refine g_iload_n (pc := 54) cx dX9_isolator_54 rfl 1 rfl ?_
            refine g_iload_n (pc := 55) cx dX9_isolator_55 rfl 2 rfl ?_
            obtain ⟨q15, M13, hc14, hf⟩ := obn_some2 hf
            refine g_callVv (pc := 56) [.int x1, .int x2] [] cx lk_X9_94 vw_X9 (LTramWiresModel_o h0) (by decide) (c_X9_newIsolator h0 hc14) dX9_isolator_56 (Nat.le_of_ble_eq_true rfl) ?_
            refine g_aload_n (pc := 59) cx dX9_isolator_59 rfl 0 rfl ?_
            refine fg_X9_7 (pc := 60) cx dX9_isolator_60 h0 ?_
            refine g_iconst (pc := 63) (v := 1) cx dX9_isolator_63 (by decide) ?_
            refine g_iald (pc := 64) cx (LTramWiresModel_st h0) dX9_isolator_64 hf (fun hf => ?_)
            refine g_iconst (pc := 65) (v := 1) cx dX9_isolator_65 (by decide) ?_
            refine g_isub (pc := 66) cx dX9_isolator_66 ?_
            exact g_iret (pc := 67) cx en dX9_isolator_67 rfl hf
/-! X9_busesOut -/
def b_X9_busesOut_35 (a0 : Nat) (rc4 : Mm → Int32 → Int32 → OR) (M : Mm) (x2 s0 s1 : Int32) : OR := bnd (s0 + s1) fun v1 => rc4 M v1 (x2 + 1)
def l_X9_busesOut_4 (a0 : Nat) : Nat → Mm → Int32 → Int32 → OR
  | 0, _, _, _ => none
  | k + 1, M, x1, x2 => ckd 0 233 (if x2 < (M (a0 + 1) (ix 0)) then obn (f_X9_of a0 M x2 2) fun q3 M1 => (if q3 = 1 then obn (f_X9_of a0 M1 x2 0) fun q6 M4 => (b_X9_busesOut_35 a0 (l_X9_busesOut_4 a0 k) M4 x2 x1 q6) else b_X9_busesOut_35 a0 (l_X9_busesOut_4 a0 k) M1 x2 x1 0) else some (x1, M))
def f_X9_busesOut (a0 : Nat) (M : Mm) : OR := l_X9_busesOut_4 a0 FU M 0 0
set_option maxHeartbeats 4000000 in
set_option maxRecDepth 100000 in
theorem w_X9_busesOut_35 {l : Launch} {w : Wp} {L : Ly} {E : Cx} {a0 : Nat} {rc4 : Mm → Int32 → Int32 → OR} {x2 s0 s1 : Int32} {R0 : Int32 × Mm} (cx : Ok w L E RX9 cX9_busesOut 3 1) (en : En w L E (some .int) R0) (h0 : LTramWiresModel w L (a0)) (hrc4 : ∀ (M : Mm) (x1 x2 : Int32), rc4 M x1 x2 = some R0 → G l w L E M [(0, .ref a0), (1, .int x1), (2, .int x2)] 4 []) {M : Mm} (hf : b_X9_busesOut_35 a0 rc4 M x2 s0 s1 = some R0) : G l w L E M [(0, .ref a0), (2, .int x2)] 35 [.int s1, .int s0] := by
  unfold b_X9_busesOut_35 at hf
  refine g_iadd (pc := 35) cx dX9_busesOut_35 ?_
  refine g_nm hf (fun v1 hf => ?_)
  refine g_istore_n (pc := 36) cx [(1, .int v1), (0, .ref a0), (2, .int x2)] dX9_busesOut_36 rfl (by decide) rfl ?_
  refine g_iinc (pc := 37) cx [(2, .int (x2 + 1)), (1, .int v1), (0, .ref a0)] dX9_busesOut_37 2 rfl rfl (by decide) rfl ?_
  refine g_goto (pc := 40) (tgt := 4) cx dX9_busesOut_40 rfl ?_
  refine g_sub [2, 1, 0] [(0, .ref a0), (1, .int v1), (2, .int (x2 + 1))] rfl ?_
  exact hrc4 _ _ _ hf
set_option maxHeartbeats 4000000 in
set_option maxRecDepth 100000 in
theorem w_X9_busesOut_4 {l : Launch} {w : Wp} {L : Ly} {E : Cx} {a0 : Nat} {R0 : Int32 × Mm} (cx : Ok w L E RX9 cX9_busesOut 3 1) (en : En w L E (some .int) R0) (h0 : LTramWiresModel w L (a0)) : ∀ (k : Nat) {M : Mm} {x1 x2 : Int32}, l_X9_busesOut_4 a0 k M x1 x2 = some R0 → G l w L E M [(0, .ref a0), (1, .int x1), (2, .int x2)] 4 [] := by
  intro k
  induction k with
  | zero =>
    intro M x1 x2 hf
    exact absurd hf (by simp [l_X9_busesOut_4])
  | succ k ih =>
    intro M x1 x2 hf
    unfold l_X9_busesOut_4 at hf
    refine g_iload_n (pc := 4) cx dX9_busesOut_4 rfl 2 rfl ?_
    refine g_aload_n (pc := 5) cx dX9_busesOut_5 rfl 0 rfl ?_
    refine fg_X9_7 (pc := 6) cx dX9_busesOut_6 h0 ?_
    refine g_iconst (pc := 9) (v := 0) cx dX9_busesOut_9 (by decide) ?_
    refine g_iald (pc := 10) cx (LTramWiresModel_st h0) dX9_busesOut_10 hf (fun hf => ?_)
    refine g_icmp_ge (pc := 11) (tgt := 43) cx dX9_busesOut_11 rfl hf (fun hf => ?_) (fun hf => ?_)
    · refine g_iload_n (pc := 14) cx dX9_busesOut_14 rfl 1 rfl ?_
      refine g_aload_n (pc := 15) cx dX9_busesOut_15 rfl 0 rfl ?_
      refine g_iload_n (pc := 16) cx dX9_busesOut_16 rfl 2 rfl ?_
      refine g_iconst (pc := 17) (v := 2) cx dX9_busesOut_17 (by decide) ?_
      obtain ⟨q3, M1, hc2, hf⟩ := obn_some2 hf
      refine g_callVi (pc := 18) [.int x2, .int 2] [.int x1] cx lk_X9_37 vw_X9 (LTramWiresModel_o h0) (by decide) (c_X9_of h0 hc2) dX9_busesOut_18 (Nat.le_of_ble_eq_true rfl) ?_
      refine g_iconst (pc := 21) (v := 1) cx dX9_busesOut_21 (by decide) ?_
      refine g_icmp_ne (pc := 22) (tgt := 34) cx dX9_busesOut_22 rfl hf (fun hf => ?_) (fun hf => ?_)
      · refine g_aload_n (pc := 25) cx dX9_busesOut_25 rfl 0 rfl ?_
        refine g_iload_n (pc := 26) cx dX9_busesOut_26 rfl 2 rfl ?_
        refine g_iconst (pc := 27) (v := 0) cx dX9_busesOut_27 (by decide) ?_
        obtain ⟨q6, M4, hc5, hf⟩ := obn_some2 hf
        refine g_callVi (pc := 28) [.int x2, .int 0] [.int x1] cx lk_X9_37 vw_X9 (LTramWiresModel_o h0) (by decide) (c_X9_of h0 hc5) dX9_busesOut_28 (Nat.le_of_ble_eq_true rfl) ?_
        refine g_goto (pc := 31) (tgt := 35) cx dX9_busesOut_31 rfl ?_
        refine g_sub [0, 2] [(0, .ref a0), (2, .int x2)] rfl ?_
        exact w_X9_busesOut_35 cx en h0 (fun _ _ _ hf => ih hf) hf
      · refine g_iconst (pc := 34) (v := 0) cx dX9_busesOut_34 (by decide) ?_
        refine g_sub [0, 2] [(0, .ref a0), (2, .int x2)] rfl ?_
        exact w_X9_busesOut_35 cx en h0 (fun _ _ _ hf => ih hf) hf
    · refine g_iload_n (pc := 43) cx dX9_busesOut_43 rfl 1 rfl ?_
      exact g_iret (pc := 44) cx en dX9_busesOut_44 rfl hf
set_option maxHeartbeats 4000000 in
set_option maxRecDepth 100000 in
theorem c_X9_busesOut {l : Launch} {w : Wp} {L : Ly} {a0 : Nat} {M : Mm} {R0 : Int32 × Mm} (h0 : LTramWiresModel w L (a0)) (hf : f_X9_busesOut a0 M = some R0) : CT l w L yX9_busesOut cX9_busesOut 3 (some .int) 1 [.ref a0] M R0 := by
  unfold f_X9_busesOut at hf
  refine CT_of pn_X9 (Nat.le_of_ble_eq_true rfl) (fun E cx en => ?_)
  have cx : Ok w L E RX9 cX9_busesOut 3 1 := cx
  show G l w L E M [(0, .ref a0)] 0 []
  refine g_iconst (pc := 0) (v := 0) cx dX9_busesOut_0 (by decide) ?_
  refine g_istore_n (pc := 1) cx [(1, .int 0), (0, .ref a0)] dX9_busesOut_1 rfl (by decide) rfl ?_
  refine g_iconst (pc := 2) (v := 0) cx dX9_busesOut_2 (by decide) ?_
  refine g_istore_n (pc := 3) cx [(2, .int 0), (1, .int 0), (0, .ref a0)] dX9_busesOut_3 rfl (by decide) rfl ?_
  refine g_sub [2, 1, 0] [(0, .ref a0), (1, .int 0), (2, .int 0)] rfl ?_
  exact w_X9_busesOut_4 cx en h0 FU hf
/-! X9_free -/
def f_X9_free (a0 : Nat) (M : Mm) : OR := ckd 2 233 (obn (f_X9_busesOut a0 M) fun q3 M1 => (some (((M (a0 + 1) (ix 2)) - q3), M1)))
set_option maxHeartbeats 4000000 in
set_option maxRecDepth 100000 in
theorem c_X9_free {l : Launch} {w : Wp} {L : Ly} {a0 : Nat} {M : Mm} {R0 : Int32 × Mm} (h0 : LTramWiresModel w L (a0)) (hf : f_X9_free a0 M = some R0) : CT l w L yX9_free cX9_free 1 (some .int) 2 [.ref a0] M R0 := by
  unfold f_X9_free at hf
  refine CT_of pn_X9 (Nat.le_of_ble_eq_true rfl) (fun E cx en => ?_)
  have cx : Ok w L E RX9 cX9_free 1 2 := cx
  show G l w L E M [(0, .ref a0)] 0 []
  refine g_aload_n (pc := 0) cx dX9_free_0 rfl 0 rfl ?_
  refine fg_X9_7 (pc := 1) cx dX9_free_1 h0 ?_
  refine g_iconst (pc := 4) (v := 2) cx dX9_free_4 (by decide) ?_
  refine g_iald (pc := 5) cx (LTramWiresModel_st h0) dX9_free_5 hf (fun hf => ?_)
  refine g_aload_n (pc := 6) cx dX9_free_6 rfl 0 rfl ?_
  obtain ⟨q3, M1, hc2, hf⟩ := obn_some2 hf
  refine g_callVi (pc := 7) [] [.int (M (a0 + 1) (ix 2))] cx lk_X9_98 vw_X9 (LTramWiresModel_o h0) (by decide) (c_X9_busesOut h0 hc2) dX9_free_7 (Nat.le_of_ble_eq_true rfl) ?_
  refine g_isub (pc := 10) cx dX9_free_10 ?_
  exact g_iret (pc := 11) cx en dX9_free_11 rfl hf
/-! X9_pool -/
def f_X9_pool (a0 : Nat) (M : Mm) (x1 : Int32) : OR := obn (f_X9_in M x1 0 40) fun q3 M1 => (if q3 = 0 then some ((-1), M1) else obn (f_X9_busesOut a0 M1) fun q6 M4 => (if x1 < q6 then some ((-2), M4) else obn (f_X9_records a0 M4) fun _ M7 => (ckd 2 233 (bnd (mst M7 (a0 + 1) (ix 2) x1) fun M10 => obn (f_X9_free a0 M10) fun q13 M11 => (some (q13, M11))))))
set_option maxHeartbeats 4000000 in
set_option maxRecDepth 100000 in
theorem c_X9_pool {l : Launch} {w : Wp} {L : Ly} {a0 : Nat} {M : Mm} {x1 : Int32} {R0 : Int32 × Mm} (h0 : LTramWiresModel w L (a0)) (hf : f_X9_pool a0 M x1 = some R0) : CT l w L yX9_pool cX9_pool 2 (some .int) 3 [.ref a0, .int x1] M R0 := by
  unfold f_X9_pool at hf
  refine CT_of pn_X9 (Nat.le_of_ble_eq_true rfl) (fun E cx en => ?_)
  have cx : Ok w L E RX9 cX9_pool 2 3 := cx
  show G l w L E M [(0, .ref a0), (1, .int x1)] 0 []
  refine g_iload_n (pc := 0) cx dX9_pool_0 rfl 1 rfl ?_
  refine g_iconst (pc := 1) (v := 0) cx dX9_pool_1 (by decide) ?_
  refine g_bipush (pc := 2) (v := 40) cx dX9_pool_2 (by decide) ?_
  obtain ⟨q3, M1, hc2, hf⟩ := obn_some2 hf
  refine g_callSi (pc := 4) [.int x1, .int 0, .int 40] [] cx lk_X9_25 (by decide) (c_X9_in hc2) dX9_pool_4 (Nat.le_of_ble_eq_true rfl) ?_
  refine g_if_ne (pc := 7) (tgt := 12) cx dX9_pool_7 rfl hf (fun hf => ?_) (fun hf => ?_)
  · refine g_iconst (pc := 10) (v := (-1)) cx dX9_pool_10 (by decide) ?_
    exact g_iret (pc := 11) cx en dX9_pool_11 rfl hf
  · refine g_aload_n (pc := 12) cx dX9_pool_12 rfl 0 rfl ?_
    obtain ⟨q6, M4, hc5, hf⟩ := obn_some2 hf
    refine g_callVi (pc := 13) [] [] cx lk_X9_98 vw_X9 (LTramWiresModel_o h0) (by decide) (c_X9_busesOut h0 hc5) dX9_pool_13 (Nat.le_of_ble_eq_true rfl) ?_
    refine g_iload_n (pc := 16) cx dX9_pool_16 rfl 1 rfl ?_
    refine g_icmp_le (pc := 17) (tgt := 23) cx dX9_pool_17 rfl hf (fun hf => ?_) (fun hf => ?_)
    · refine g_bipush (pc := 20) (v := (-2)) cx dX9_pool_20 (by decide) ?_
      exact g_iret (pc := 22) cx en dX9_pool_22 rfl hf
    · refine g_aload_n (pc := 23) cx dX9_pool_23 rfl 0 rfl ?_
      obtain ⟨q9, M7, hc8, hf⟩ := obn_some2 hf
      refine g_callVv (pc := 24) [] [] cx lk_X9_73 vw_X9 (LTramWiresModel_o h0) (by decide) (c_X9_records h0 hc8) dX9_pool_24 (Nat.le_of_ble_eq_true rfl) ?_
      refine g_aload_n (pc := 27) cx dX9_pool_27 rfl 0 rfl ?_
      refine fg_X9_7 (pc := 28) cx dX9_pool_28 h0 ?_
      refine g_iconst (pc := 31) (v := 2) cx dX9_pool_31 (by decide) ?_
      refine g_iload_n (pc := 32) cx dX9_pool_32 rfl 1 rfl ?_
      refine g_iast (pc := 33) cx (LTramWiresModel_st h0) dX9_pool_33 hf (fun M10 hf => ?_)
      refine g_aload_n (pc := 34) cx dX9_pool_34 rfl 0 rfl ?_
      obtain ⟨q13, M11, hc12, hf⟩ := obn_some2 hf
      refine g_callVi (pc := 35) [] [] cx lk_X9_101 vw_X9 (LTramWiresModel_o h0) (by decide) (c_X9_free h0 hc12) dX9_pool_35 (Nat.le_of_ble_eq_true rfl) ?_
      exact g_iret (pc := 38) cx en dX9_pool_38 rfl hf
/-! X9_closedAt -/
def b_X9_closedAt_50 (a0 : Nat) (rc4 : Mm → Int32 → Int32 → OR) (M : Mm) (x1 x3 s0 s1 : Int32) : OR := bnd (s0 + s1) fun v1 => rc4 M v1 (x3 + 1)
def b_X9_closedAt_45 (a0 : Nat) (rc4 : Mm → Int32 → Int32 → OR) (M : Mm) (x1 x3 s0 : Int32) : OR := b_X9_closedAt_50 a0 rc4 M x1 x3 s0 1
def b_X9_closedAt_49 (a0 : Nat) (rc4 : Mm → Int32 → Int32 → OR) (M : Mm) (x1 x3 s0 : Int32) : OR := b_X9_closedAt_50 a0 rc4 M x1 x3 s0 0
def l_X9_closedAt_4 (a0 : Nat) (x1 : Int32) : Nat → Mm → Int32 → Int32 → OR
  | 0, _, _, _ => none
  | k + 1, M, x2, x3 => ckd 1 233 (if x3 < (M (a0 + 1) (ix 1)) then obn (f_X9_at a0 M x3 2) fun q3 M1 => (if q3 = 1 then obn (f_X9_at a0 M1 x3 0) fun q6 M4 => (if q6 = x1 then b_X9_closedAt_45 a0 (l_X9_closedAt_4 a0 x1 k) M4 x1 x3 x2 else obn (f_X9_at a0 M4 x3 1) fun q9 M7 => (if q9 = x1 then b_X9_closedAt_45 a0 (l_X9_closedAt_4 a0 x1 k) M7 x1 x3 x2 else b_X9_closedAt_49 a0 (l_X9_closedAt_4 a0 x1 k) M7 x1 x3 x2)) else b_X9_closedAt_49 a0 (l_X9_closedAt_4 a0 x1 k) M1 x1 x3 x2) else some (x2, M))
def f_X9_closedAt (a0 : Nat) (M : Mm) (x1 : Int32) : OR := l_X9_closedAt_4 a0 x1 FU M 0 0
set_option maxHeartbeats 4000000 in
set_option maxRecDepth 100000 in
theorem w_X9_closedAt_50 {l : Launch} {w : Wp} {L : Ly} {E : Cx} {a0 : Nat} {rc4 : Mm → Int32 → Int32 → OR} {x1 x3 s0 s1 : Int32} {R0 : Int32 × Mm} (cx : Ok w L E RX9 cX9_closedAt 4 1) (en : En w L E (some .int) R0) (h0 : LTramWiresModel w L (a0)) (hrc4 : ∀ (M : Mm) (x2 x3 : Int32), rc4 M x2 x3 = some R0 → G l w L E M [(0, .ref a0), (1, .int x1), (2, .int x2), (3, .int x3)] 4 []) {M : Mm} (hf : b_X9_closedAt_50 a0 rc4 M x1 x3 s0 s1 = some R0) : G l w L E M [(0, .ref a0), (1, .int x1), (3, .int x3)] 50 [.int s1, .int s0] := by
  unfold b_X9_closedAt_50 at hf
  refine g_iadd (pc := 50) cx dX9_closedAt_50 ?_
  refine g_nm hf (fun v1 hf => ?_)
  refine g_istore_n (pc := 51) cx [(2, .int v1), (0, .ref a0), (1, .int x1), (3, .int x3)] dX9_closedAt_51 rfl (by decide) rfl ?_
  refine g_iinc (pc := 52) cx [(3, .int (x3 + 1)), (2, .int v1), (0, .ref a0), (1, .int x1)] dX9_closedAt_52 3 rfl rfl (by decide) rfl ?_
  refine g_goto (pc := 55) (tgt := 4) cx dX9_closedAt_55 rfl ?_
  refine g_sub [2, 3, 1, 0] [(0, .ref a0), (1, .int x1), (2, .int v1), (3, .int (x3 + 1))] rfl ?_
  exact hrc4 _ _ _ hf
set_option maxHeartbeats 4000000 in
set_option maxRecDepth 100000 in
theorem w_X9_closedAt_45 {l : Launch} {w : Wp} {L : Ly} {E : Cx} {a0 : Nat} {rc4 : Mm → Int32 → Int32 → OR} {x1 x3 s0 : Int32} {R0 : Int32 × Mm} (cx : Ok w L E RX9 cX9_closedAt 4 1) (en : En w L E (some .int) R0) (h0 : LTramWiresModel w L (a0)) (hrc4 : ∀ (M : Mm) (x2 x3 : Int32), rc4 M x2 x3 = some R0 → G l w L E M [(0, .ref a0), (1, .int x1), (2, .int x2), (3, .int x3)] 4 []) {M : Mm} (hf : b_X9_closedAt_45 a0 rc4 M x1 x3 s0 = some R0) : G l w L E M [(0, .ref a0), (1, .int x1), (3, .int x3)] 45 [.int s0] := by
  unfold b_X9_closedAt_45 at hf
  refine g_iconst (pc := 45) (v := 1) cx dX9_closedAt_45 (by decide) ?_
  refine g_goto (pc := 46) (tgt := 50) cx dX9_closedAt_46 rfl ?_
  exact w_X9_closedAt_50 cx en h0 hrc4 hf
set_option maxHeartbeats 4000000 in
set_option maxRecDepth 100000 in
theorem w_X9_closedAt_49 {l : Launch} {w : Wp} {L : Ly} {E : Cx} {a0 : Nat} {rc4 : Mm → Int32 → Int32 → OR} {x1 x3 s0 : Int32} {R0 : Int32 × Mm} (cx : Ok w L E RX9 cX9_closedAt 4 1) (en : En w L E (some .int) R0) (h0 : LTramWiresModel w L (a0)) (hrc4 : ∀ (M : Mm) (x2 x3 : Int32), rc4 M x2 x3 = some R0 → G l w L E M [(0, .ref a0), (1, .int x1), (2, .int x2), (3, .int x3)] 4 []) {M : Mm} (hf : b_X9_closedAt_49 a0 rc4 M x1 x3 s0 = some R0) : G l w L E M [(0, .ref a0), (1, .int x1), (3, .int x3)] 49 [.int s0] := by
  unfold b_X9_closedAt_49 at hf
  refine g_iconst (pc := 49) (v := 0) cx dX9_closedAt_49 (by decide) ?_
  exact w_X9_closedAt_50 cx en h0 hrc4 hf
set_option maxHeartbeats 4000000 in
set_option maxRecDepth 100000 in
theorem w_X9_closedAt_4 {l : Launch} {w : Wp} {L : Ly} {E : Cx} {a0 : Nat} {x1 : Int32} {R0 : Int32 × Mm} (cx : Ok w L E RX9 cX9_closedAt 4 1) (en : En w L E (some .int) R0) (h0 : LTramWiresModel w L (a0)) : ∀ (k : Nat) {M : Mm} {x2 x3 : Int32}, l_X9_closedAt_4 a0 x1 k M x2 x3 = some R0 → G l w L E M [(0, .ref a0), (1, .int x1), (2, .int x2), (3, .int x3)] 4 [] := by
  intro k
  induction k with
  | zero =>
    intro M x2 x3 hf
    exact absurd hf (by simp [l_X9_closedAt_4])
  | succ k ih =>
    intro M x2 x3 hf
    unfold l_X9_closedAt_4 at hf
    refine g_iload_n (pc := 4) cx dX9_closedAt_4 rfl 3 rfl ?_
    refine g_aload_n (pc := 5) cx dX9_closedAt_5 rfl 0 rfl ?_
    refine fg_X9_7 (pc := 6) cx dX9_closedAt_6 h0 ?_
    refine g_iconst (pc := 9) (v := 1) cx dX9_closedAt_9 (by decide) ?_
    refine g_iald (pc := 10) cx (LTramWiresModel_st h0) dX9_closedAt_10 hf (fun hf => ?_)
    refine g_icmp_ge (pc := 11) (tgt := 58) cx dX9_closedAt_11 rfl hf (fun hf => ?_) (fun hf => ?_)
    · refine g_iload_n (pc := 14) cx dX9_closedAt_14 rfl 2 rfl ?_
      refine g_aload_n (pc := 15) cx dX9_closedAt_15 rfl 0 rfl ?_
      refine g_iload_n (pc := 16) cx dX9_closedAt_16 rfl 3 rfl ?_
      refine g_iconst (pc := 17) (v := 2) cx dX9_closedAt_17 (by decide) ?_
      obtain ⟨q3, M1, hc2, hf⟩ := obn_some2 hf
      refine g_callVi (pc := 18) [.int x3, .int 2] [.int x2] cx lk_X9_33 vw_X9 (LTramWiresModel_o h0) (by decide) (c_X9_at h0 hc2) dX9_closedAt_18 (Nat.le_of_ble_eq_true rfl) ?_
      refine g_iconst (pc := 21) (v := 1) cx dX9_closedAt_21 (by decide) ?_
      refine g_icmp_ne (pc := 22) (tgt := 49) cx dX9_closedAt_22 rfl hf (fun hf => ?_) (fun hf => ?_)
      · refine g_aload_n (pc := 25) cx dX9_closedAt_25 rfl 0 rfl ?_
        refine g_iload_n (pc := 26) cx dX9_closedAt_26 rfl 3 rfl ?_
        refine g_iconst (pc := 27) (v := 0) cx dX9_closedAt_27 (by decide) ?_
        obtain ⟨q6, M4, hc5, hf⟩ := obn_some2 hf
        refine g_callVi (pc := 28) [.int x3, .int 0] [.int x2] cx lk_X9_33 vw_X9 (LTramWiresModel_o h0) (by decide) (c_X9_at h0 hc5) dX9_closedAt_28 (Nat.le_of_ble_eq_true rfl) ?_
        refine g_iload_n (pc := 31) cx dX9_closedAt_31 rfl 1 rfl ?_
        refine g_icmp_eq (pc := 32) (tgt := 45) cx dX9_closedAt_32 rfl hf (fun hf => ?_) (fun hf => ?_)
        · refine g_sub [0, 1, 3] [(0, .ref a0), (1, .int x1), (3, .int x3)] rfl ?_
          exact w_X9_closedAt_45 cx en h0 (fun _ _ _ hf => ih hf) hf
        · refine g_aload_n (pc := 35) cx dX9_closedAt_35 rfl 0 rfl ?_
          refine g_iload_n (pc := 36) cx dX9_closedAt_36 rfl 3 rfl ?_
          refine g_iconst (pc := 37) (v := 1) cx dX9_closedAt_37 (by decide) ?_
          obtain ⟨q9, M7, hc8, hf⟩ := obn_some2 hf
          refine g_callVi (pc := 38) [.int x3, .int 1] [.int x2] cx lk_X9_33 vw_X9 (LTramWiresModel_o h0) (by decide) (c_X9_at h0 hc8) dX9_closedAt_38 (Nat.le_of_ble_eq_true rfl) ?_
          refine g_iload_n (pc := 41) cx dX9_closedAt_41 rfl 1 rfl ?_
          refine g_icmp_ne (pc := 42) (tgt := 49) cx dX9_closedAt_42 rfl hf (fun hf => ?_) (fun hf => ?_)
          · refine g_sub [0, 1, 3] [(0, .ref a0), (1, .int x1), (3, .int x3)] rfl ?_
            exact w_X9_closedAt_45 cx en h0 (fun _ _ _ hf => ih hf) hf
          · refine g_sub [0, 1, 3] [(0, .ref a0), (1, .int x1), (3, .int x3)] rfl ?_
            exact w_X9_closedAt_49 cx en h0 (fun _ _ _ hf => ih hf) hf
      · refine g_sub [0, 1, 3] [(0, .ref a0), (1, .int x1), (3, .int x3)] rfl ?_
        exact w_X9_closedAt_49 cx en h0 (fun _ _ _ hf => ih hf) hf
    · refine g_iload_n (pc := 58) cx dX9_closedAt_58 rfl 2 rfl ?_
      exact g_iret (pc := 59) cx en dX9_closedAt_59 rfl hf
set_option maxHeartbeats 4000000 in
set_option maxRecDepth 100000 in
theorem c_X9_closedAt {l : Launch} {w : Wp} {L : Ly} {a0 : Nat} {M : Mm} {x1 : Int32} {R0 : Int32 × Mm} (h0 : LTramWiresModel w L (a0)) (hf : f_X9_closedAt a0 M x1 = some R0) : CT l w L yX9_closedAt cX9_closedAt 4 (some .int) 1 [.ref a0, .int x1] M R0 := by
  unfold f_X9_closedAt at hf
  refine CT_of pn_X9 (Nat.le_of_ble_eq_true rfl) (fun E cx en => ?_)
  have cx : Ok w L E RX9 cX9_closedAt 4 1 := cx
  show G l w L E M [(0, .ref a0), (1, .int x1)] 0 []
  refine g_iconst (pc := 0) (v := 0) cx dX9_closedAt_0 (by decide) ?_
  refine g_istore_n (pc := 1) cx [(2, .int 0), (0, .ref a0), (1, .int x1)] dX9_closedAt_1 rfl (by decide) rfl ?_
  refine g_iconst (pc := 2) (v := 0) cx dX9_closedAt_2 (by decide) ?_
  refine g_istore_n (pc := 3) cx [(3, .int 0), (2, .int 0), (0, .ref a0), (1, .int x1)] dX9_closedAt_3 rfl (by decide) rfl ?_
  refine g_sub [2, 3, 1, 0] [(0, .ref a0), (1, .int x1), (2, .int 0), (3, .int 0)] rfl ?_
  exact w_X9_closedAt_4 cx en h0 FU hf
/-! X9_sectionOf -/
def b_X9_sectionOf_18 (a0 : Nat) (M : Mm) : OR := some ((-1), M)
def b_X9_sectionOf_76 (a0 : Nat) (M : Mm) (x1 x2 : Int32) : OR := obn (f_X9_of a0 M x1 x2) fun q3 M1 => (some (q3, M1))
def b_X9_sectionOf_96 (a0 : Nat) (M : Mm) (s0 : Int32) : OR := some (s0, M)
def b_X9_sectionOf_106 (a0 : Nat) (M : Mm) (x1 x2 : Int32) : OR := obn (f_X9_of a0 M x1 (x2 - 2)) fun q3 M1 => (some (q3, M1))
def b_X9_sectionOf_166 (a0 : Nat) (M : Mm) (s0 : Int32) : OR := some (s0, M)
def f_X9_sectionOf (a0 : Nat) (M : Mm) (x1 x2 : Int32) : OR := obn (f_X9_isSection a0 M x1) fun q3 M1 => (if q3 = 0 then b_X9_sectionOf_18 a0 M1 else obn (f_X9_in M1 x2 0 10) fun q6 M4 => (if q6 = 0 then b_X9_sectionOf_18 a0 M4 else if x2 = 0 then b_X9_sectionOf_76 a0 M4 x1 x2 else if x2 = 1 then b_X9_sectionOf_76 a0 M4 x1 x2 else if x2 = 2 then obn (f_X9_isLive a0 M4 x1) fun q9 M7 => (if q9 = 0 then b_X9_sectionOf_96 a0 M7 0 else b_X9_sectionOf_96 a0 M7 1) else if x2 = 3 then obn (f_X9_liveAgain a0 M4) fun q12 M10 => (some (((q12 >>> (x1 &&& 31)) &&& 1), M10)) else if x2 = 4 then b_X9_sectionOf_106 a0 M4 x1 x2 else if x2 = 5 then b_X9_sectionOf_106 a0 M4 x1 x2 else if x2 = 6 then b_X9_sectionOf_106 a0 M4 x1 x2 else if x2 = 7 then obn (f_X9_of a0 M4 x1 7) fun q15 M13 => (some (q15, M13)) else if x2 = 8 then obn (f_X9_closedOnes a0 M4) fun q18 M16 => (obn (f_X9_hanging a0 M16 (1 <<< (x1 &&& 31)) q18) fun q21 M19 => (obn (f_X9_bits M19 q21) fun q24 M22 => (some (q24, M22)))) else if x2 = 9 then obn (f_X9_closedAt a0 M4 x1) fun q27 M25 => (some (q27, M25)) else obn (f_X9_of a0 M4 x1 4) fun q30 M28 => (if q30 = 1 then obn (f_X9_of a0 M28 x1 6) fun q33 M31 => (b_X9_sectionOf_166 a0 M31 q33) else b_X9_sectionOf_166 a0 M28 (-4))))
set_option maxHeartbeats 4000000 in
set_option maxRecDepth 100000 in
theorem w_X9_sectionOf_18 {l : Launch} {w : Wp} {L : Ly} {E : Cx} {a0 : Nat} {R0 : Int32 × Mm} (cx : Ok w L E RX9 cX9_sectionOf 3 5) (en : En w L E (some .int) R0) (h0 : LTramWiresModel w L (a0)) {M : Mm} (hf : b_X9_sectionOf_18 a0 M = some R0) : G l w L E M [] 18 [] := by
  unfold b_X9_sectionOf_18 at hf
  refine g_iconst (pc := 18) (v := (-1)) cx dX9_sectionOf_18 (by decide) ?_
  exact g_iret (pc := 19) cx en dX9_sectionOf_19 rfl hf
set_option maxHeartbeats 4000000 in
set_option maxRecDepth 100000 in
theorem w_X9_sectionOf_76 {l : Launch} {w : Wp} {L : Ly} {E : Cx} {a0 : Nat} {x1 x2 : Int32} {R0 : Int32 × Mm} (cx : Ok w L E RX9 cX9_sectionOf 3 5) (en : En w L E (some .int) R0) (h0 : LTramWiresModel w L (a0)) {M : Mm} (hf : b_X9_sectionOf_76 a0 M x1 x2 = some R0) : G l w L E M [(0, .ref a0), (1, .int x1), (2, .int x2)] 76 [] := by
  unfold b_X9_sectionOf_76 at hf
  refine g_aload_n (pc := 76) cx dX9_sectionOf_76 rfl 0 rfl ?_
  refine g_iload_n (pc := 77) cx dX9_sectionOf_77 rfl 1 rfl ?_
  refine g_iload_n (pc := 78) cx dX9_sectionOf_78 rfl 2 rfl ?_
  obtain ⟨q3, M1, hc2, hf⟩ := obn_some2 hf
  refine g_callVi (pc := 79) [.int x1, .int x2] [] cx lk_X9_37 vw_X9 (LTramWiresModel_o h0) (by decide) (c_X9_of h0 hc2) dX9_sectionOf_79 (Nat.le_of_ble_eq_true rfl) ?_
  exact g_iret (pc := 82) cx en dX9_sectionOf_82 rfl hf
set_option maxHeartbeats 4000000 in
set_option maxRecDepth 100000 in
theorem w_X9_sectionOf_96 {l : Launch} {w : Wp} {L : Ly} {E : Cx} {a0 : Nat} {s0 : Int32} {R0 : Int32 × Mm} (cx : Ok w L E RX9 cX9_sectionOf 3 5) (en : En w L E (some .int) R0) (h0 : LTramWiresModel w L (a0)) {M : Mm} (hf : b_X9_sectionOf_96 a0 M s0 = some R0) : G l w L E M [] 96 [.int s0] := by
  unfold b_X9_sectionOf_96 at hf
  exact g_iret (pc := 96) cx en dX9_sectionOf_96 rfl hf
set_option maxHeartbeats 4000000 in
set_option maxRecDepth 100000 in
theorem w_X9_sectionOf_106 {l : Launch} {w : Wp} {L : Ly} {E : Cx} {a0 : Nat} {x1 x2 : Int32} {R0 : Int32 × Mm} (cx : Ok w L E RX9 cX9_sectionOf 3 5) (en : En w L E (some .int) R0) (h0 : LTramWiresModel w L (a0)) {M : Mm} (hf : b_X9_sectionOf_106 a0 M x1 x2 = some R0) : G l w L E M [(0, .ref a0), (1, .int x1), (2, .int x2)] 106 [] := by
  unfold b_X9_sectionOf_106 at hf
  refine g_aload_n (pc := 106) cx dX9_sectionOf_106 rfl 0 rfl ?_
  refine g_iload_n (pc := 107) cx dX9_sectionOf_107 rfl 1 rfl ?_
  refine g_iload_n (pc := 108) cx dX9_sectionOf_108 rfl 2 rfl ?_
  refine g_iconst (pc := 109) (v := 2) cx dX9_sectionOf_109 (by decide) ?_
  refine g_isub (pc := 110) cx dX9_sectionOf_110 ?_
  obtain ⟨q3, M1, hc2, hf⟩ := obn_some2 hf
  refine g_callVi (pc := 111) [.int x1, .int (x2 - 2)] [] cx lk_X9_37 vw_X9 (LTramWiresModel_o h0) (by decide) (c_X9_of h0 hc2) dX9_sectionOf_111 (Nat.le_of_ble_eq_true rfl) ?_
  exact g_iret (pc := 114) cx en dX9_sectionOf_114 rfl hf
set_option maxHeartbeats 4000000 in
set_option maxRecDepth 100000 in
theorem w_X9_sectionOf_166 {l : Launch} {w : Wp} {L : Ly} {E : Cx} {a0 : Nat} {s0 : Int32} {R0 : Int32 × Mm} (cx : Ok w L E RX9 cX9_sectionOf 3 5) (en : En w L E (some .int) R0) (h0 : LTramWiresModel w L (a0)) {M : Mm} (hf : b_X9_sectionOf_166 a0 M s0 = some R0) : G l w L E M [] 166 [.int s0] := by
  unfold b_X9_sectionOf_166 at hf
  exact g_iret (pc := 166) cx en dX9_sectionOf_166 rfl hf
set_option maxHeartbeats 4000000 in
set_option maxRecDepth 100000 in
theorem c_X9_sectionOf {l : Launch} {w : Wp} {L : Ly} {a0 : Nat} {M : Mm} {x1 x2 : Int32} {R0 : Int32 × Mm} (h0 : LTramWiresModel w L (a0)) (hf : f_X9_sectionOf a0 M x1 x2 = some R0) : CT l w L yX9_sectionOf cX9_sectionOf 3 (some .int) 5 [.ref a0, .int x1, .int x2] M R0 := by
  unfold f_X9_sectionOf at hf
  refine CT_of pn_X9 (Nat.le_of_ble_eq_true rfl) (fun E cx en => ?_)
  have cx : Ok w L E RX9 cX9_sectionOf 3 5 := cx
  show G l w L E M [(0, .ref a0), (1, .int x1), (2, .int x2)] 0 []
  refine g_aload_n (pc := 0) cx dX9_sectionOf_0 rfl 0 rfl ?_
  refine g_iload_n (pc := 1) cx dX9_sectionOf_1 rfl 1 rfl ?_
  obtain ⟨q3, M1, hc2, hf⟩ := obn_some2 hf
  refine g_callVi (pc := 2) [.int x1] [] cx lk_X9_86 vw_X9 (LTramWiresModel_o h0) (by decide) (c_X9_isSection h0 hc2) dX9_sectionOf_2 (Nat.le_of_ble_eq_true rfl) ?_
  refine g_if_eq (pc := 5) (tgt := 18) cx dX9_sectionOf_5 rfl hf (fun hf => ?_) (fun hf => ?_)
  · refine g_sub [] [] rfl ?_
    exact w_X9_sectionOf_18 cx en h0 hf
  · refine g_iload_n (pc := 8) cx dX9_sectionOf_8 rfl 2 rfl ?_
    refine g_iconst (pc := 9) (v := 0) cx dX9_sectionOf_9 (by decide) ?_
    refine g_bipush (pc := 10) (v := 10) cx dX9_sectionOf_10 (by decide) ?_
    obtain ⟨q6, M4, hc5, hf⟩ := obn_some2 hf
    refine g_callSi (pc := 12) [.int x2, .int 0, .int 10] [] cx lk_X9_25 (by decide) (c_X9_in hc5) dX9_sectionOf_12 (Nat.le_of_ble_eq_true rfl) ?_
    refine g_if_ne (pc := 15) (tgt := 20) cx dX9_sectionOf_15 rfl hf (fun hf => ?_) (fun hf => ?_)
    · refine g_sub [] [] rfl ?_
      exact w_X9_sectionOf_18 cx en h0 hf
    · refine g_iload_n (pc := 20) cx dX9_sectionOf_20 rfl 2 rfl ?_
      refine g_swk (pc := 21) (kx := 0) (off := 55) (tgt := 76) cx dX9_sectionOf_21 (by decide) (by decide) (by decide) (by decide) hf (fun hf => ?_) (fun n0 hf => ?_)
      · exact w_X9_sectionOf_76 cx en h0 hf
      refine g_swk (pc := 21) (kx := 1) (off := 55) (tgt := 76) cx dX9_sectionOf_21 (by decide) (by decide) (by decide) (by decide) hf (fun hf => ?_) (fun n1 hf => ?_)
      · exact w_X9_sectionOf_76 cx en h0 hf
      refine g_swk (pc := 21) (kx := 2) (off := 62) (tgt := 83) cx dX9_sectionOf_21 (by decide) (by decide) (by decide) (by decide) hf (fun hf => ?_) (fun n2 hf => ?_)
      · refine g_aload_n (pc := 83) cx dX9_sectionOf_83 rfl 0 rfl ?_
        refine g_iload_n (pc := 84) cx dX9_sectionOf_84 rfl 1 rfl ?_
        obtain ⟨q9, M7, hc8, hf⟩ := obn_some2 hf
        refine g_callVi (pc := 85) [.int x1] [] cx lk_X9_104 vw_X9 (LTramWiresModel_o h0) (by decide) (c_X9_isLive h0 hc8) dX9_sectionOf_85 (Nat.le_of_ble_eq_true rfl) ?_
        refine g_if_eq (pc := 88) (tgt := 95) cx dX9_sectionOf_88 rfl hf (fun hf => ?_) (fun hf => ?_)
        · refine g_iconst (pc := 95) (v := 0) cx dX9_sectionOf_95 (by decide) ?_
          refine g_sub [] [] rfl ?_
          exact w_X9_sectionOf_96 cx en h0 hf
        · refine g_iconst (pc := 91) (v := 1) cx dX9_sectionOf_91 (by decide) ?_
          refine g_goto (pc := 92) (tgt := 96) cx dX9_sectionOf_92 rfl ?_
          refine g_sub [] [] rfl ?_
          exact w_X9_sectionOf_96 cx en h0 hf
      refine g_swk (pc := 21) (kx := 3) (off := 76) (tgt := 97) cx dX9_sectionOf_21 (by decide) (by decide) (by decide) (by decide) hf (fun hf => ?_) (fun n3 hf => ?_)
      · refine g_aload_n (pc := 97) cx dX9_sectionOf_97 rfl 0 rfl ?_
        obtain ⟨q12, M10, hc11, hf⟩ := obn_some2 hf
        refine g_callVi (pc := 98) [] [] cx lk_X9_107 vw_X9 (LTramWiresModel_o h0) (by decide) (c_X9_liveAgain h0 hc11) dX9_sectionOf_98 (Nat.le_of_ble_eq_true rfl) ?_
        refine g_iload_n (pc := 101) cx dX9_sectionOf_101 rfl 1 rfl ?_
        refine g_ishr (pc := 102) cx dX9_sectionOf_102 ?_
        refine g_iconst (pc := 103) (v := 1) cx dX9_sectionOf_103 (by decide) ?_
        refine g_iand (pc := 104) cx dX9_sectionOf_104 ?_
        exact g_iret (pc := 105) cx en dX9_sectionOf_105 rfl hf
      refine g_swk (pc := 21) (kx := 4) (off := 85) (tgt := 106) cx dX9_sectionOf_21 (by decide) (by decide) (by decide) (by decide) hf (fun hf => ?_) (fun n4 hf => ?_)
      · exact w_X9_sectionOf_106 cx en h0 hf
      refine g_swk (pc := 21) (kx := 5) (off := 85) (tgt := 106) cx dX9_sectionOf_21 (by decide) (by decide) (by decide) (by decide) hf (fun hf => ?_) (fun n5 hf => ?_)
      · exact w_X9_sectionOf_106 cx en h0 hf
      refine g_swk (pc := 21) (kx := 6) (off := 85) (tgt := 106) cx dX9_sectionOf_21 (by decide) (by decide) (by decide) (by decide) hf (fun hf => ?_) (fun n6 hf => ?_)
      · exact w_X9_sectionOf_106 cx en h0 hf
      refine g_swk (pc := 21) (kx := 7) (off := 94) (tgt := 115) cx dX9_sectionOf_21 (by decide) (by decide) (by decide) (by decide) hf (fun hf => ?_) (fun n7 hf => ?_)
      · refine g_aload_n (pc := 115) cx dX9_sectionOf_115 rfl 0 rfl ?_
        refine g_iload_n (pc := 116) cx dX9_sectionOf_116 rfl 1 rfl ?_
        refine g_bipush (pc := 117) (v := 7) cx dX9_sectionOf_117 (by decide) ?_
        obtain ⟨q15, M13, hc14, hf⟩ := obn_some2 hf
        refine g_callVi (pc := 119) [.int x1, .int 7] [] cx lk_X9_37 vw_X9 (LTramWiresModel_o h0) (by decide) (c_X9_of h0 hc14) dX9_sectionOf_119 (Nat.le_of_ble_eq_true rfl) ?_
        exact g_iret (pc := 122) cx en dX9_sectionOf_122 rfl hf
      refine g_swk (pc := 21) (kx := 8) (off := 102) (tgt := 123) cx dX9_sectionOf_21 (by decide) (by decide) (by decide) (by decide) hf (fun hf => ?_) (fun n8 hf => ?_)
      · refine g_aload_n (pc := 123) cx dX9_sectionOf_123 rfl 0 rfl ?_
        refine g_iconst (pc := 124) (v := 1) cx dX9_sectionOf_124 (by decide) ?_
        refine g_iload_n (pc := 125) cx dX9_sectionOf_125 rfl 1 rfl ?_
        refine g_ishl (pc := 126) cx dX9_sectionOf_126 ?_
        refine g_aload_n (pc := 127) cx dX9_sectionOf_127 rfl 0 rfl ?_
        obtain ⟨q18, M16, hc17, hf⟩ := obn_some2 hf
        refine g_callVi (pc := 128) [] [.int (1 <<< (x1 &&& 31)), .ref a0] cx lk_X9_51 vw_X9 (LTramWiresModel_o h0) (by decide) (c_X9_closedOnes h0 hc17) dX9_sectionOf_128 (Nat.le_of_ble_eq_true rfl) ?_
        obtain ⟨q21, M19, hc20, hf⟩ := obn_some2 hf
        refine g_callVi (pc := 131) [.int (1 <<< (x1 &&& 31)), .int q18] [] cx lk_X9_44 vw_X9 (LTramWiresModel_o h0) (by decide) (c_X9_hanging h0 hc20) dX9_sectionOf_131 (Nat.le_of_ble_eq_true rfl) ?_
        obtain ⟨q24, M22, hc23, hf⟩ := obn_some2 hf
        refine g_callSi (pc := 134) [.int q21] [] cx lk_X9_110 (by decide) (c_X9_bits hc23) dX9_sectionOf_134 (Nat.le_of_ble_eq_true rfl) ?_
        exact g_iret (pc := 137) cx en dX9_sectionOf_137 rfl hf
      refine g_swk (pc := 21) (kx := 9) (off := 117) (tgt := 138) cx dX9_sectionOf_21 (by decide) (by decide) (by decide) (by decide) hf (fun hf => ?_) (fun n9 hf => ?_)
      · refine g_aload_n (pc := 138) cx dX9_sectionOf_138 rfl 0 rfl ?_
        refine g_iload_n (pc := 139) cx dX9_sectionOf_139 rfl 1 rfl ?_
        obtain ⟨q27, M25, hc26, hf⟩ := obn_some2 hf
        refine g_callVi (pc := 140) [.int x1] [] cx lk_X9_113 vw_X9 (LTramWiresModel_o h0) (by decide) (c_X9_closedAt h0 hc26) dX9_sectionOf_140 (Nat.le_of_ble_eq_true rfl) ?_
        exact g_iret (pc := 143) cx en dX9_sectionOf_143 rfl hf
      refine g_swo (pc := 21) (tgt := 144) cx dX9_sectionOf_21 ?_ (by decide) ?_
      · have q0 := lv_neT n0 (a := 0) (by decide)
        have q1 := lv_neT n1 (a := 1) (by decide)
        have q2 := lv_neT n2 (a := 2) (by decide)
        have q3 := lv_neT n3 (a := 3) (by decide)
        have q4 := lv_neT n4 (a := 4) (by decide)
        have q5 := lv_neT n5 (a := 5) (by decide)
        have q6 := lv_neT n6 (a := 6) (by decide)
        have q7 := lv_neT n7 (a := 7) (by decide)
        have q8 := lv_neT n8 (a := 8) (by decide)
        have q9 := lv_neT n9 (a := 9) (by decide)
        omega
      · refine g_aload_n (pc := 144) cx dX9_sectionOf_144 rfl 0 rfl ?_
        refine g_iload_n (pc := 145) cx dX9_sectionOf_145 rfl 1 rfl ?_
        refine g_iconst (pc := 146) (v := 4) cx dX9_sectionOf_146 (by decide) ?_
        obtain ⟨q30, M28, hc29, hf⟩ := obn_some2 hf
        refine g_callVi (pc := 147) [.int x1, .int 4] [] cx lk_X9_37 vw_X9 (LTramWiresModel_o h0) (by decide) (c_X9_of h0 hc29) dX9_sectionOf_147 (Nat.le_of_ble_eq_true rfl) ?_
        refine g_iconst (pc := 150) (v := 1) cx dX9_sectionOf_150 (by decide) ?_
        refine g_icmp_ne (pc := 151) (tgt := 164) cx dX9_sectionOf_151 rfl hf (fun hf => ?_) (fun hf => ?_)
        · refine g_aload_n (pc := 154) cx dX9_sectionOf_154 rfl 0 rfl ?_
          refine g_iload_n (pc := 155) cx dX9_sectionOf_155 rfl 1 rfl ?_
          refine g_bipush (pc := 156) (v := 6) cx dX9_sectionOf_156 (by decide) ?_
          obtain ⟨q33, M31, hc32, hf⟩ := obn_some2 hf
          refine g_callVi (pc := 158) [.int x1, .int 6] [] cx lk_X9_37 vw_X9 (LTramWiresModel_o h0) (by decide) (c_X9_of h0 hc32) dX9_sectionOf_158 (Nat.le_of_ble_eq_true rfl) ?_
          refine g_goto (pc := 161) (tgt := 166) cx dX9_sectionOf_161 rfl ?_
          refine g_sub [] [] rfl ?_
          exact w_X9_sectionOf_166 cx en h0 hf
        · refine g_bipush (pc := 164) (v := (-4)) cx dX9_sectionOf_164 (by decide) ?_
          refine g_sub [] [] rfl ?_
          exact w_X9_sectionOf_166 cx en h0 hf
/-! X9_liveWith -/
def b_X9_liveWith_30 (a0 : Nat) (M : Mm) (s1 s2 : Int32) : OR := obn (f_X9_live a0 M s1 s2) fun q3 M1 => (some (q3, M1))
def f_X9_liveWith (a0 : Nat) (M : Mm) (x1 x2 : Int32) : OR := bnd (1 <<< (x1 &&& 31)) fun v1 => obn (f_X9_onOnes a0 M) fun q4 M2 => (if x2 = 0 then obn (f_X9_closedOnes a0 M2) fun q7 M5 => (b_X9_liveWith_30 a0 M5 q4 (q7 &&& (v1 ^^^ (-1)))) else obn (f_X9_closedOnes a0 M2) fun q10 M8 => (b_X9_liveWith_30 a0 M8 q4 (q10 ||| v1)))
set_option maxHeartbeats 4000000 in
set_option maxRecDepth 100000 in
theorem w_X9_liveWith_30 {l : Launch} {w : Wp} {L : Ly} {E : Cx} {a0 : Nat} {s1 s2 : Int32} {R0 : Int32 × Mm} (cx : Ok w L E RX9 cX9_liveWith 4 3) (en : En w L E (some .int) R0) (h0 : LTramWiresModel w L (a0)) {M : Mm} (hf : b_X9_liveWith_30 a0 M s1 s2 = some R0) : G l w L E M [] 30 [.int s2, .int s1, .ref a0] := by
  unfold b_X9_liveWith_30 at hf
  obtain ⟨q3, M1, hc2, hf⟩ := obn_some2 hf
  refine g_callVi (pc := 30) [.int s1, .int s2] [] cx lk_X9_54 vw_X9 (LTramWiresModel_o h0) (by decide) (c_X9_live h0 hc2) dX9_liveWith_30 (Nat.le_of_ble_eq_true rfl) ?_
  exact g_iret (pc := 33) cx en dX9_liveWith_33 rfl hf
set_option maxHeartbeats 4000000 in
set_option maxRecDepth 100000 in
theorem c_X9_liveWith {l : Launch} {w : Wp} {L : Ly} {a0 : Nat} {M : Mm} {x1 x2 : Int32} {R0 : Int32 × Mm} (h0 : LTramWiresModel w L (a0)) (hf : f_X9_liveWith a0 M x1 x2 = some R0) : CT l w L yX9_liveWith cX9_liveWith 4 (some .int) 3 [.ref a0, .int x1, .int x2] M R0 := by
  unfold f_X9_liveWith at hf
  refine CT_of pn_X9 (Nat.le_of_ble_eq_true rfl) (fun E cx en => ?_)
  have cx : Ok w L E RX9 cX9_liveWith 4 3 := cx
  show G l w L E M [(0, .ref a0), (1, .int x1), (2, .int x2)] 0 []
  refine g_iconst (pc := 0) (v := 1) cx dX9_liveWith_0 (by decide) ?_
  refine g_iload_n (pc := 1) cx dX9_liveWith_1 rfl 1 rfl ?_
  refine g_ishl (pc := 2) cx dX9_liveWith_2 ?_
  refine g_nm hf (fun v1 hf => ?_)
  refine g_istore_n (pc := 3) cx [(3, .int v1), (0, .ref a0), (1, .int x1), (2, .int x2)] dX9_liveWith_3 rfl (by decide) rfl ?_
  refine g_aload_n (pc := 4) cx dX9_liveWith_4 rfl 1 rfl ?_
  refine g_aload_n (pc := 5) cx dX9_liveWith_5 rfl 1 rfl ?_
  obtain ⟨q4, M2, hc3, hf⟩ := obn_some2 hf
  refine g_callVi (pc := 6) [] [.ref a0] cx lk_X9_47 vw_X9 (LTramWiresModel_o h0) (by decide) (c_X9_onOnes h0 hc3) dX9_liveWith_6 (Nat.le_of_ble_eq_true rfl) ?_
  refine g_iload_n (pc := 9) cx dX9_liveWith_9 rfl 3 rfl ?_
  refine g_if_eq (pc := 10) (tgt := 22) cx dX9_liveWith_10 rfl hf (fun hf => ?_) (fun hf => ?_)
  · refine g_aload_n (pc := 22) cx dX9_liveWith_22 rfl 1 rfl ?_
    obtain ⟨q7, M5, hc6, hf⟩ := obn_some2 hf
    refine g_callVi (pc := 23) [] [.int q4, .ref a0] cx lk_X9_51 vw_X9 (LTramWiresModel_o h0) (by decide) (c_X9_closedOnes h0 hc6) dX9_liveWith_23 (Nat.le_of_ble_eq_true rfl) ?_
    refine g_iload_n (pc := 26) cx dX9_liveWith_26 rfl 0 rfl ?_
    refine g_iconst (pc := 27) (v := (-1)) cx dX9_liveWith_27 (by decide) ?_
    refine g_ixor (pc := 28) cx dX9_liveWith_28 ?_
    refine g_iand (pc := 29) cx dX9_liveWith_29 ?_
    refine g_sub [] [] rfl ?_
    exact w_X9_liveWith_30 cx en h0 hf
  · refine g_aload_n (pc := 13) cx dX9_liveWith_13 rfl 1 rfl ?_
    obtain ⟨q10, M8, hc9, hf⟩ := obn_some2 hf
    refine g_callVi (pc := 14) [] [.int q4, .ref a0] cx lk_X9_51 vw_X9 (LTramWiresModel_o h0) (by decide) (c_X9_closedOnes h0 hc9) dX9_liveWith_14 (Nat.le_of_ble_eq_true rfl) ?_
    refine g_iload_n (pc := 17) cx dX9_liveWith_17 rfl 0 rfl ?_
    refine g_ior (pc := 18) cx dX9_liveWith_18 ?_
    refine g_goto (pc := 19) (tgt := 30) cx dX9_liveWith_19 rfl ?_
    refine g_sub [] [] rfl ?_
    exact w_X9_liveWith_30 cx en h0 hf
/-! X9_isolatorOf -/
def b_X9_isolatorOf_17 (a0 : Nat) (M : Mm) : OR := some ((-1), M)
def f_X9_isolatorOf (a0 : Nat) (M : Mm) (x1 x2 : Int32) : OR := obn (f_X9_isIsolator a0 M x1) fun q3 M1 => (if q3 = 0 then b_X9_isolatorOf_17 a0 M1 else obn (f_X9_in M1 x2 0 5) fun q6 M4 => (if q6 = 0 then b_X9_isolatorOf_17 a0 M4 else if x2 = 3 then obn (f_X9_closedAgain a0 M4 x1) fun q9 M7 => (some (q9, M7)) else if x2 = 4 then obn (f_X9_liveNow a0 M4) fun q12 M10 => (obn (f_X9_liveWith a0 M10 x1 0) fun q15 M13 => (obn (f_X9_bits M13 (q12 &&& (q15 ^^^ (-1)))) fun q18 M16 => (some (q18, M16)))) else if x2 = 5 then obn (f_X9_liveWith a0 M4 x1 1) fun q21 M19 => (obn (f_X9_liveNow a0 M19) fun q24 M22 => (obn (f_X9_bits M22 (q21 &&& (q24 ^^^ (-1)))) fun q27 M25 => (some (q27, M25)))) else obn (f_X9_at a0 M4 x1 x2) fun q30 M28 => (some (q30, M28))))
set_option maxHeartbeats 4000000 in
set_option maxRecDepth 100000 in
theorem w_X9_isolatorOf_17 {l : Launch} {w : Wp} {L : Ly} {E : Cx} {a0 : Nat} {R0 : Int32 × Mm} (cx : Ok w L E RX9 cX9_isolatorOf 3 4) (en : En w L E (some .int) R0) (h0 : LTramWiresModel w L (a0)) {M : Mm} (hf : b_X9_isolatorOf_17 a0 M = some R0) : G l w L E M [] 17 [] := by
  unfold b_X9_isolatorOf_17 at hf
  refine g_iconst (pc := 17) (v := (-1)) cx dX9_isolatorOf_17 (by decide) ?_
  exact g_iret (pc := 18) cx en dX9_isolatorOf_18 rfl hf
set_option maxHeartbeats 4000000 in
set_option maxRecDepth 100000 in
theorem c_X9_isolatorOf {l : Launch} {w : Wp} {L : Ly} {a0 : Nat} {M : Mm} {x1 x2 : Int32} {R0 : Int32 × Mm} (h0 : LTramWiresModel w L (a0)) (hf : f_X9_isolatorOf a0 M x1 x2 = some R0) : CT l w L yX9_isolatorOf cX9_isolatorOf 3 (some .int) 4 [.ref a0, .int x1, .int x2] M R0 := by
  unfold f_X9_isolatorOf at hf
  refine CT_of pn_X9 (Nat.le_of_ble_eq_true rfl) (fun E cx en => ?_)
  have cx : Ok w L E RX9 cX9_isolatorOf 3 4 := cx
  show G l w L E M [(0, .ref a0), (1, .int x1), (2, .int x2)] 0 []
  refine g_aload_n (pc := 0) cx dX9_isolatorOf_0 rfl 0 rfl ?_
  refine g_iload_n (pc := 1) cx dX9_isolatorOf_1 rfl 1 rfl ?_
  obtain ⟨q3, M1, hc2, hf⟩ := obn_some2 hf
  refine g_callVi (pc := 2) [.int x1] [] cx lk_X9_116 vw_X9 (LTramWiresModel_o h0) (by decide) (c_X9_isIsolator h0 hc2) dX9_isolatorOf_2 (Nat.le_of_ble_eq_true rfl) ?_
  refine g_if_eq (pc := 5) (tgt := 17) cx dX9_isolatorOf_5 rfl hf (fun hf => ?_) (fun hf => ?_)
  · refine g_sub [] [] rfl ?_
    exact w_X9_isolatorOf_17 cx en h0 hf
  · refine g_iload_n (pc := 8) cx dX9_isolatorOf_8 rfl 2 rfl ?_
    refine g_iconst (pc := 9) (v := 0) cx dX9_isolatorOf_9 (by decide) ?_
    refine g_iconst (pc := 10) (v := 5) cx dX9_isolatorOf_10 (by decide) ?_
    obtain ⟨q6, M4, hc5, hf⟩ := obn_some2 hf
    refine g_callSi (pc := 11) [.int x2, .int 0, .int 5] [] cx lk_X9_25 (by decide) (c_X9_in hc5) dX9_isolatorOf_11 (Nat.le_of_ble_eq_true rfl) ?_
    refine g_if_ne (pc := 14) (tgt := 19) cx dX9_isolatorOf_14 rfl hf (fun hf => ?_) (fun hf => ?_)
    · refine g_sub [] [] rfl ?_
      exact w_X9_isolatorOf_17 cx en h0 hf
    · refine g_iload_n (pc := 19) cx dX9_isolatorOf_19 rfl 2 rfl ?_
      refine g_swk (pc := 20) (kx := 3) (off := 28) (tgt := 48) cx dX9_isolatorOf_20 (by decide) (by decide) (by decide) (by decide) hf (fun hf => ?_) (fun n0 hf => ?_)
      · refine g_aload_n (pc := 48) cx dX9_isolatorOf_48 rfl 0 rfl ?_
        refine g_iload_n (pc := 49) cx dX9_isolatorOf_49 rfl 1 rfl ?_
        obtain ⟨q9, M7, hc8, hf⟩ := obn_some2 hf
        refine g_callVi (pc := 50) [.int x1] [] cx lk_X9_70 vw_X9 (LTramWiresModel_o h0) (by decide) (c_X9_closedAgain h0 hc8) dX9_isolatorOf_50 (Nat.le_of_ble_eq_true rfl) ?_
        exact g_iret (pc := 53) cx en dX9_isolatorOf_53 rfl hf
      refine g_swk (pc := 20) (kx := 4) (off := 34) (tgt := 54) cx dX9_isolatorOf_20 (by decide) (by decide) (by decide) (by decide) hf (fun hf => ?_) (fun n1 hf => ?_)
      · refine g_aload_n (pc := 54) cx dX9_isolatorOf_54 rfl 0 rfl ?_
        obtain ⟨q12, M10, hc11, hf⟩ := obn_some2 hf
        refine g_callVi (pc := 55) [] [] cx lk_X9_57 vw_X9 (LTramWiresModel_o h0) (by decide) (c_X9_liveNow h0 hc11) dX9_isolatorOf_55 (Nat.le_of_ble_eq_true rfl) ?_
        refine g_aload_n (pc := 58) cx dX9_isolatorOf_58 rfl 0 rfl ?_
        refine g_iload_n (pc := 59) cx dX9_isolatorOf_59 rfl 1 rfl ?_
        refine g_iconst (pc := 60) (v := 0) cx dX9_isolatorOf_60 (by decide) ?_
        obtain ⟨q15, M13, hc14, hf⟩ := obn_some2 hf
        refine g_callVi (pc := 61) [.int x1, .int 0] [.int q12] cx lk_X9_119 vw_X9 (LTramWiresModel_o h0) (by decide) (c_X9_liveWith h0 hc14) dX9_isolatorOf_61 (Nat.le_of_ble_eq_true rfl) ?_
        refine g_iconst (pc := 64) (v := (-1)) cx dX9_isolatorOf_64 (by decide) ?_
        refine g_ixor (pc := 65) cx dX9_isolatorOf_65 ?_
        refine g_iand (pc := 66) cx dX9_isolatorOf_66 ?_
        obtain ⟨q18, M16, hc17, hf⟩ := obn_some2 hf
        refine g_callSi (pc := 67) [.int (q12 &&& (q15 ^^^ (-1)))] [] cx lk_X9_110 (by decide) (c_X9_bits hc17) dX9_isolatorOf_67 (Nat.le_of_ble_eq_true rfl) ?_
        exact g_iret (pc := 70) cx en dX9_isolatorOf_70 rfl hf
      refine g_swk (pc := 20) (kx := 5) (off := 51) (tgt := 71) cx dX9_isolatorOf_20 (by decide) (by decide) (by decide) (by decide) hf (fun hf => ?_) (fun n2 hf => ?_)
      · refine g_aload_n (pc := 71) cx dX9_isolatorOf_71 rfl 0 rfl ?_
        refine g_iload_n (pc := 72) cx dX9_isolatorOf_72 rfl 1 rfl ?_
        refine g_iconst (pc := 73) (v := 1) cx dX9_isolatorOf_73 (by decide) ?_
        obtain ⟨q21, M19, hc20, hf⟩ := obn_some2 hf
        refine g_callVi (pc := 74) [.int x1, .int 1] [] cx lk_X9_119 vw_X9 (LTramWiresModel_o h0) (by decide) (c_X9_liveWith h0 hc20) dX9_isolatorOf_74 (Nat.le_of_ble_eq_true rfl) ?_
        refine g_aload_n (pc := 77) cx dX9_isolatorOf_77 rfl 0 rfl ?_
        obtain ⟨q24, M22, hc23, hf⟩ := obn_some2 hf
        refine g_callVi (pc := 78) [] [.int q21] cx lk_X9_57 vw_X9 (LTramWiresModel_o h0) (by decide) (c_X9_liveNow h0 hc23) dX9_isolatorOf_78 (Nat.le_of_ble_eq_true rfl) ?_
        refine g_iconst (pc := 81) (v := (-1)) cx dX9_isolatorOf_81 (by decide) ?_
        refine g_ixor (pc := 82) cx dX9_isolatorOf_82 ?_
        refine g_iand (pc := 83) cx dX9_isolatorOf_83 ?_
        obtain ⟨q27, M25, hc26, hf⟩ := obn_some2 hf
        refine g_callSi (pc := 84) [.int (q21 &&& (q24 ^^^ (-1)))] [] cx lk_X9_110 (by decide) (c_X9_bits hc26) dX9_isolatorOf_84 (Nat.le_of_ble_eq_true rfl) ?_
        exact g_iret (pc := 87) cx en dX9_isolatorOf_87 rfl hf
      refine g_swo (pc := 20) (tgt := 88) cx dX9_isolatorOf_20 ?_ (by decide) ?_
      · have q0 := lv_neT n0 (a := 3) (by decide)
        have q1 := lv_neT n1 (a := 4) (by decide)
        have q2 := lv_neT n2 (a := 5) (by decide)
        omega
      · refine g_aload_n (pc := 88) cx dX9_isolatorOf_88 rfl 0 rfl ?_
        refine g_iload_n (pc := 89) cx dX9_isolatorOf_89 rfl 1 rfl ?_
        refine g_iload_n (pc := 90) cx dX9_isolatorOf_90 rfl 2 rfl ?_
        obtain ⟨q30, M28, hc29, hf⟩ := obn_some2 hf
        refine g_callVi (pc := 91) [.int x1, .int x2] [] cx lk_X9_33 vw_X9 (LTramWiresModel_o h0) (by decide) (c_X9_at h0 hc29) dX9_isolatorOf_91 (Nat.le_of_ble_eq_true rfl) ?_
        exact g_iret (pc := 94) cx en dX9_isolatorOf_94 rfl hf
/-! X9_groups -/
def b_X9_groups_30 (a0 : Nat) (rc6 : Mm → Int32 → Int32 → Int32 → OR) (M : Mm) (x2 x3 s0 s1 : Int32) : OR := bnd (s0 + s1) fun v1 => obn (f_X9_closedOnes a0 M) fun q4 M2 => (obn (f_X9_hanging a0 M2 (1 <<< (x3 &&& 31)) q4) fun q7 M5 => (bnd (x2 ||| q7) fun v8 => rc6 M5 v1 v8 (x3 + 1)))
def l_X9_groups_6 (a0 : Nat) : Nat → Mm → Int32 → Int32 → Int32 → OR
  | 0, _, _, _, _ => none
  | k + 1, M, x1, x2, x3 => ckd 0 233 (if x3 < (M (a0 + 1) (ix 0)) then if ((x2 >>> (x3 &&& 31)) &&& 1) = 0 then b_X9_groups_30 a0 (l_X9_groups_6 a0 k) M x2 x3 x1 1 else b_X9_groups_30 a0 (l_X9_groups_6 a0 k) M x2 x3 x1 0 else some (x1, M))
def f_X9_groups (a0 : Nat) (M : Mm) : OR := l_X9_groups_6 a0 FU M 0 0 0
set_option maxHeartbeats 4000000 in
set_option maxRecDepth 100000 in
theorem w_X9_groups_30 {l : Launch} {w : Wp} {L : Ly} {E : Cx} {a0 : Nat} {rc6 : Mm → Int32 → Int32 → Int32 → OR} {x2 x3 s0 s1 : Int32} {R0 : Int32 × Mm} (cx : Ok w L E RX9 cX9_groups 4 2) (en : En w L E (some .int) R0) (h0 : LTramWiresModel w L (a0)) (hrc6 : ∀ (M : Mm) (x1 x2 x3 : Int32), rc6 M x1 x2 x3 = some R0 → G l w L E M [(0, .ref a0), (1, .int x1), (2, .int x2), (3, .int x3)] 6 []) {M : Mm} (hf : b_X9_groups_30 a0 rc6 M x2 x3 s0 s1 = some R0) : G l w L E M [(0, .ref a0), (2, .int x2), (3, .int x3)] 30 [.int s1, .int s0] := by
  unfold b_X9_groups_30 at hf
  refine g_iadd (pc := 30) cx dX9_groups_30 ?_
  refine g_nm hf (fun v1 hf => ?_)
  refine g_istore_n (pc := 31) cx [(1, .int v1), (0, .ref a0), (2, .int x2), (3, .int x3)] dX9_groups_31 rfl (by decide) rfl ?_
  refine g_iload_n (pc := 32) cx dX9_groups_32 rfl 2 rfl ?_
  refine g_aload_n (pc := 33) cx dX9_groups_33 rfl 1 rfl ?_
  refine g_iconst (pc := 34) (v := 1) cx dX9_groups_34 (by decide) ?_
  refine g_iload_n (pc := 35) cx dX9_groups_35 rfl 3 rfl ?_
  refine g_ishl (pc := 36) cx dX9_groups_36 ?_
  refine g_aload_n (pc := 37) cx dX9_groups_37 rfl 1 rfl ?_
  obtain ⟨q4, M2, hc3, hf⟩ := obn_some2 hf
  refine g_callVi (pc := 38) [] [.int (1 <<< (x3 &&& 31)), .ref a0, .int x2] cx lk_X9_51 vw_X9 (LTramWiresModel_o h0) (by decide) (c_X9_closedOnes h0 hc3) dX9_groups_38 (Nat.le_of_ble_eq_true rfl) ?_
  obtain ⟨q7, M5, hc6, hf⟩ := obn_some2 hf
  refine g_callVi (pc := 41) [.int (1 <<< (x3 &&& 31)), .int q4] [.int x2] cx lk_X9_44 vw_X9 (LTramWiresModel_o h0) (by decide) (c_X9_hanging h0 hc6) dX9_groups_41 (Nat.le_of_ble_eq_true rfl) ?_
  refine g_ior (pc := 44) cx dX9_groups_44 ?_
  refine g_nm hf (fun v8 hf => ?_)
  refine g_istore_n (pc := 45) cx [(2, .int v8), (1, .int v1), (0, .ref a0), (3, .int x3)] dX9_groups_45 rfl (by decide) rfl ?_
  refine g_iinc (pc := 46) cx [(3, .int (x3 + 1)), (2, .int v8), (1, .int v1), (0, .ref a0)] dX9_groups_46 3 rfl rfl (by decide) rfl ?_
  refine g_goto (pc := 49) (tgt := 6) cx dX9_groups_49 rfl ?_
  refine g_sub [3, 2, 1, 0] [(0, .ref a0), (1, .int v1), (2, .int v8), (3, .int (x3 + 1))] rfl ?_
  exact hrc6 _ _ _ _ hf
set_option maxHeartbeats 4000000 in
set_option maxRecDepth 100000 in
theorem w_X9_groups_6 {l : Launch} {w : Wp} {L : Ly} {E : Cx} {a0 : Nat} {R0 : Int32 × Mm} (cx : Ok w L E RX9 cX9_groups 4 2) (en : En w L E (some .int) R0) (h0 : LTramWiresModel w L (a0)) : ∀ (k : Nat) {M : Mm} {x1 x2 x3 : Int32}, l_X9_groups_6 a0 k M x1 x2 x3 = some R0 → G l w L E M [(0, .ref a0), (1, .int x1), (2, .int x2), (3, .int x3)] 6 [] := by
  intro k
  induction k with
  | zero =>
    intro M x1 x2 x3 hf
    exact absurd hf (by simp [l_X9_groups_6])
  | succ k ih =>
    intro M x1 x2 x3 hf
    unfold l_X9_groups_6 at hf
    refine g_iload_n (pc := 6) cx dX9_groups_6 rfl 3 rfl ?_
    refine g_aload_n (pc := 7) cx dX9_groups_7 rfl 0 rfl ?_
    refine fg_X9_7 (pc := 8) cx dX9_groups_8 h0 ?_
    refine g_iconst (pc := 11) (v := 0) cx dX9_groups_11 (by decide) ?_
    refine g_iald (pc := 12) cx (LTramWiresModel_st h0) dX9_groups_12 hf (fun hf => ?_)
    refine g_icmp_ge (pc := 13) (tgt := 52) cx dX9_groups_13 rfl hf (fun hf => ?_) (fun hf => ?_)
    · refine g_iload_n (pc := 16) cx dX9_groups_16 rfl 1 rfl ?_
      refine g_iload_n (pc := 17) cx dX9_groups_17 rfl 2 rfl ?_
      refine g_iload_n (pc := 18) cx dX9_groups_18 rfl 3 rfl ?_
      refine g_ishr (pc := 19) cx dX9_groups_19 ?_
      refine g_iconst (pc := 20) (v := 1) cx dX9_groups_20 (by decide) ?_
      refine g_iand (pc := 21) cx dX9_groups_21 ?_
      refine g_if_ne (pc := 22) (tgt := 29) cx dX9_groups_22 rfl hf (fun hf => ?_) (fun hf => ?_)
      · refine g_iconst (pc := 25) (v := 1) cx dX9_groups_25 (by decide) ?_
        refine g_goto (pc := 26) (tgt := 30) cx dX9_groups_26 rfl ?_
        refine g_sub [0, 2, 3] [(0, .ref a0), (2, .int x2), (3, .int x3)] rfl ?_
        exact w_X9_groups_30 cx en h0 (fun _ _ _ _ hf => ih hf) hf
      · refine g_iconst (pc := 29) (v := 0) cx dX9_groups_29 (by decide) ?_
        refine g_sub [0, 2, 3] [(0, .ref a0), (2, .int x2), (3, .int x3)] rfl ?_
        exact w_X9_groups_30 cx en h0 (fun _ _ _ _ hf => ih hf) hf
    · refine g_iload_n (pc := 52) cx dX9_groups_52 rfl 1 rfl ?_
      exact g_iret (pc := 53) cx en dX9_groups_53 rfl hf
set_option maxHeartbeats 4000000 in
set_option maxRecDepth 100000 in
theorem c_X9_groups {l : Launch} {w : Wp} {L : Ly} {a0 : Nat} {M : Mm} {R0 : Int32 × Mm} (h0 : LTramWiresModel w L (a0)) (hf : f_X9_groups a0 M = some R0) : CT l w L yX9_groups cX9_groups 4 (some .int) 2 [.ref a0] M R0 := by
  unfold f_X9_groups at hf
  refine CT_of pn_X9 (Nat.le_of_ble_eq_true rfl) (fun E cx en => ?_)
  have cx : Ok w L E RX9 cX9_groups 4 2 := cx
  show G l w L E M [(0, .ref a0)] 0 []
  refine g_iconst (pc := 0) (v := 0) cx dX9_groups_0 (by decide) ?_
  refine g_istore_n (pc := 1) cx [(1, .int 0), (0, .ref a0)] dX9_groups_1 rfl (by decide) rfl ?_
  refine g_iconst (pc := 2) (v := 0) cx dX9_groups_2 (by decide) ?_
  refine g_istore_n (pc := 3) cx [(2, .int 0), (1, .int 0), (0, .ref a0)] dX9_groups_3 rfl (by decide) rfl ?_
  refine g_iconst (pc := 4) (v := 0) cx dX9_groups_4 (by decide) ?_
  refine g_istore_n (pc := 5) cx [(3, .int 0), (2, .int 0), (1, .int 0), (0, .ref a0)] dX9_groups_5 rfl (by decide) rfl ?_
  refine g_sub [3, 2, 1, 0] [(0, .ref a0), (1, .int 0), (2, .int 0), (3, .int 0)] rfl ?_
  exact w_X9_groups_6 cx en h0 FU hf
/-! X9_toolsLeft -/
def l_X9_toolsLeft_4 (a0 : Nat) : Nat → Mm → Int32 → Int32 → OR
  | 0, _, _, _ => none
  | k + 1, M, x1, x2 => ckd 0 233 (if x2 < (M (a0 + 1) (ix 0)) then obn (f_X9_of a0 M x2 7) fun q3 M1 => (bnd (x1 + q3) fun v4 => l_X9_toolsLeft_4 a0 k M1 v4 (x2 + 1)) else some (x1, M))
def f_X9_toolsLeft (a0 : Nat) (M : Mm) : OR := l_X9_toolsLeft_4 a0 FU M 0 0
set_option maxHeartbeats 4000000 in
set_option maxRecDepth 100000 in
theorem w_X9_toolsLeft_4 {l : Launch} {w : Wp} {L : Ly} {E : Cx} {a0 : Nat} {R0 : Int32 × Mm} (cx : Ok w L E RX9 cX9_toolsLeft 3 1) (en : En w L E (some .int) R0) (h0 : LTramWiresModel w L (a0)) : ∀ (k : Nat) {M : Mm} {x1 x2 : Int32}, l_X9_toolsLeft_4 a0 k M x1 x2 = some R0 → G l w L E M [(0, .ref a0), (1, .int x1), (2, .int x2)] 4 [] := by
  intro k
  induction k with
  | zero =>
    intro M x1 x2 hf
    exact absurd hf (by simp [l_X9_toolsLeft_4])
  | succ k ih =>
    intro M x1 x2 hf
    unfold l_X9_toolsLeft_4 at hf
    refine g_iload_n (pc := 4) cx dX9_toolsLeft_4 rfl 2 rfl ?_
    refine g_aload_n (pc := 5) cx dX9_toolsLeft_5 rfl 0 rfl ?_
    refine fg_X9_7 (pc := 6) cx dX9_toolsLeft_6 h0 ?_
    refine g_iconst (pc := 9) (v := 0) cx dX9_toolsLeft_9 (by decide) ?_
    refine g_iald (pc := 10) cx (LTramWiresModel_st h0) dX9_toolsLeft_10 hf (fun hf => ?_)
    refine g_icmp_ge (pc := 11) (tgt := 30) cx dX9_toolsLeft_11 rfl hf (fun hf => ?_) (fun hf => ?_)
    · refine g_iload_n (pc := 14) cx dX9_toolsLeft_14 rfl 1 rfl ?_
      refine g_aload_n (pc := 15) cx dX9_toolsLeft_15 rfl 0 rfl ?_
      refine g_iload_n (pc := 16) cx dX9_toolsLeft_16 rfl 2 rfl ?_
      refine g_bipush (pc := 17) (v := 7) cx dX9_toolsLeft_17 (by decide) ?_
      obtain ⟨q3, M1, hc2, hf⟩ := obn_some2 hf
      refine g_callVi (pc := 19) [.int x2, .int 7] [.int x1] cx lk_X9_37 vw_X9 (LTramWiresModel_o h0) (by decide) (c_X9_of h0 hc2) dX9_toolsLeft_19 (Nat.le_of_ble_eq_true rfl) ?_
      refine g_iadd (pc := 22) cx dX9_toolsLeft_22 ?_
      refine g_nm hf (fun v4 hf => ?_)
      refine g_istore_n (pc := 23) cx [(1, .int v4), (0, .ref a0), (2, .int x2)] dX9_toolsLeft_23 rfl (by decide) rfl ?_
      refine g_iinc (pc := 24) cx [(2, .int (x2 + 1)), (1, .int v4), (0, .ref a0)] dX9_toolsLeft_24 2 rfl rfl (by decide) rfl ?_
      refine g_goto (pc := 27) (tgt := 4) cx dX9_toolsLeft_27 rfl ?_
      refine g_sub [2, 1, 0] [(0, .ref a0), (1, .int v4), (2, .int (x2 + 1))] rfl ?_
      exact ih hf
    · refine g_iload_n (pc := 30) cx dX9_toolsLeft_30 rfl 1 rfl ?_
      exact g_iret (pc := 31) cx en dX9_toolsLeft_31 rfl hf
set_option maxHeartbeats 4000000 in
set_option maxRecDepth 100000 in
theorem c_X9_toolsLeft {l : Launch} {w : Wp} {L : Ly} {a0 : Nat} {M : Mm} {R0 : Int32 × Mm} (h0 : LTramWiresModel w L (a0)) (hf : f_X9_toolsLeft a0 M = some R0) : CT l w L yX9_toolsLeft cX9_toolsLeft 3 (some .int) 1 [.ref a0] M R0 := by
  unfold f_X9_toolsLeft at hf
  refine CT_of pn_X9 (Nat.le_of_ble_eq_true rfl) (fun E cx en => ?_)
  have cx : Ok w L E RX9 cX9_toolsLeft 3 1 := cx
  show G l w L E M [(0, .ref a0)] 0 []
  refine g_iconst (pc := 0) (v := 0) cx dX9_toolsLeft_0 (by decide) ?_
  refine g_istore_n (pc := 1) cx [(1, .int 0), (0, .ref a0)] dX9_toolsLeft_1 rfl (by decide) rfl ?_
  refine g_iconst (pc := 2) (v := 0) cx dX9_toolsLeft_2 (by decide) ?_
  refine g_istore_n (pc := 3) cx [(2, .int 0), (1, .int 0), (0, .ref a0)] dX9_toolsLeft_3 rfl (by decide) rfl ?_
  refine g_sub [2, 1, 0] [(0, .ref a0), (1, .int 0), (2, .int 0)] rfl ?_
  exact w_X9_toolsLeft_4 cx en h0 FU hf
/-! X9_lateOnes -/
def b_X9_lateOnes_46 (a0 : Nat) (rc4 : Mm → Int32 → Int32 → OR) (M : Mm) (x2 s0 s1 : Int32) : OR := bnd (s0 + s1) fun v1 => rc4 M v1 (x2 + 1)
def b_X9_lateOnes_45 (a0 : Nat) (rc4 : Mm → Int32 → Int32 → OR) (M : Mm) (x2 s0 : Int32) : OR := b_X9_lateOnes_46 a0 rc4 M x2 s0 0
def l_X9_lateOnes_4 (a0 : Nat) : Nat → Mm → Int32 → Int32 → OR
  | 0, _, _, _ => none
  | k + 1, M, x1, x2 => ckd 0 233 (if x2 < (M (a0 + 1) (ix 0)) then obn (f_X9_of a0 M x2 4) fun q3 M1 => (if q3 = 1 then ckd 3 233 (obn (f_X9_of a0 M1 x2 6) fun q6 M4 => (if q6 < (M1 (a0 + 1) (ix 3)) then b_X9_lateOnes_46 a0 (l_X9_lateOnes_4 a0 k) M4 x2 x1 1 else b_X9_lateOnes_45 a0 (l_X9_lateOnes_4 a0 k) M4 x2 x1)) else b_X9_lateOnes_45 a0 (l_X9_lateOnes_4 a0 k) M1 x2 x1) else some (x1, M))
def f_X9_lateOnes (a0 : Nat) (M : Mm) : OR := l_X9_lateOnes_4 a0 FU M 0 0
set_option maxHeartbeats 4000000 in
set_option maxRecDepth 100000 in
theorem w_X9_lateOnes_46 {l : Launch} {w : Wp} {L : Ly} {E : Cx} {a0 : Nat} {rc4 : Mm → Int32 → Int32 → OR} {x2 s0 s1 : Int32} {R0 : Int32 × Mm} (cx : Ok w L E RX9 cX9_lateOnes 3 1) (en : En w L E (some .int) R0) (h0 : LTramWiresModel w L (a0)) (hrc4 : ∀ (M : Mm) (x1 x2 : Int32), rc4 M x1 x2 = some R0 → G l w L E M [(0, .ref a0), (1, .int x1), (2, .int x2)] 4 []) {M : Mm} (hf : b_X9_lateOnes_46 a0 rc4 M x2 s0 s1 = some R0) : G l w L E M [(0, .ref a0), (2, .int x2)] 46 [.int s1, .int s0] := by
  unfold b_X9_lateOnes_46 at hf
  refine g_iadd (pc := 46) cx dX9_lateOnes_46 ?_
  refine g_nm hf (fun v1 hf => ?_)
  refine g_istore_n (pc := 47) cx [(1, .int v1), (0, .ref a0), (2, .int x2)] dX9_lateOnes_47 rfl (by decide) rfl ?_
  refine g_iinc (pc := 48) cx [(2, .int (x2 + 1)), (1, .int v1), (0, .ref a0)] dX9_lateOnes_48 2 rfl rfl (by decide) rfl ?_
  refine g_goto (pc := 51) (tgt := 4) cx dX9_lateOnes_51 rfl ?_
  refine g_sub [2, 1, 0] [(0, .ref a0), (1, .int v1), (2, .int (x2 + 1))] rfl ?_
  exact hrc4 _ _ _ hf
set_option maxHeartbeats 4000000 in
set_option maxRecDepth 100000 in
theorem w_X9_lateOnes_45 {l : Launch} {w : Wp} {L : Ly} {E : Cx} {a0 : Nat} {rc4 : Mm → Int32 → Int32 → OR} {x2 s0 : Int32} {R0 : Int32 × Mm} (cx : Ok w L E RX9 cX9_lateOnes 3 1) (en : En w L E (some .int) R0) (h0 : LTramWiresModel w L (a0)) (hrc4 : ∀ (M : Mm) (x1 x2 : Int32), rc4 M x1 x2 = some R0 → G l w L E M [(0, .ref a0), (1, .int x1), (2, .int x2)] 4 []) {M : Mm} (hf : b_X9_lateOnes_45 a0 rc4 M x2 s0 = some R0) : G l w L E M [(0, .ref a0), (2, .int x2)] 45 [.int s0] := by
  unfold b_X9_lateOnes_45 at hf
  refine g_iconst (pc := 45) (v := 0) cx dX9_lateOnes_45 (by decide) ?_
  exact w_X9_lateOnes_46 cx en h0 hrc4 hf
set_option maxHeartbeats 4000000 in
set_option maxRecDepth 100000 in
theorem w_X9_lateOnes_4 {l : Launch} {w : Wp} {L : Ly} {E : Cx} {a0 : Nat} {R0 : Int32 × Mm} (cx : Ok w L E RX9 cX9_lateOnes 3 1) (en : En w L E (some .int) R0) (h0 : LTramWiresModel w L (a0)) : ∀ (k : Nat) {M : Mm} {x1 x2 : Int32}, l_X9_lateOnes_4 a0 k M x1 x2 = some R0 → G l w L E M [(0, .ref a0), (1, .int x1), (2, .int x2)] 4 [] := by
  intro k
  induction k with
  | zero =>
    intro M x1 x2 hf
    exact absurd hf (by simp [l_X9_lateOnes_4])
  | succ k ih =>
    intro M x1 x2 hf
    unfold l_X9_lateOnes_4 at hf
    refine g_iload_n (pc := 4) cx dX9_lateOnes_4 rfl 2 rfl ?_
    refine g_aload_n (pc := 5) cx dX9_lateOnes_5 rfl 0 rfl ?_
    refine fg_X9_7 (pc := 6) cx dX9_lateOnes_6 h0 ?_
    refine g_iconst (pc := 9) (v := 0) cx dX9_lateOnes_9 (by decide) ?_
    refine g_iald (pc := 10) cx (LTramWiresModel_st h0) dX9_lateOnes_10 hf (fun hf => ?_)
    refine g_icmp_ge (pc := 11) (tgt := 54) cx dX9_lateOnes_11 rfl hf (fun hf => ?_) (fun hf => ?_)
    · refine g_iload_n (pc := 14) cx dX9_lateOnes_14 rfl 1 rfl ?_
      refine g_aload_n (pc := 15) cx dX9_lateOnes_15 rfl 0 rfl ?_
      refine g_iload_n (pc := 16) cx dX9_lateOnes_16 rfl 2 rfl ?_
      refine g_iconst (pc := 17) (v := 4) cx dX9_lateOnes_17 (by decide) ?_
      obtain ⟨q3, M1, hc2, hf⟩ := obn_some2 hf
      refine g_callVi (pc := 18) [.int x2, .int 4] [.int x1] cx lk_X9_37 vw_X9 (LTramWiresModel_o h0) (by decide) (c_X9_of h0 hc2) dX9_lateOnes_18 (Nat.le_of_ble_eq_true rfl) ?_
      refine g_iconst (pc := 21) (v := 1) cx dX9_lateOnes_21 (by decide) ?_
      refine g_icmp_ne (pc := 22) (tgt := 45) cx dX9_lateOnes_22 rfl hf (fun hf => ?_) (fun hf => ?_)
      · refine g_aload_n (pc := 25) cx dX9_lateOnes_25 rfl 0 rfl ?_
        refine fg_X9_7 (pc := 26) cx dX9_lateOnes_26 h0 ?_
        refine g_iconst (pc := 29) (v := 3) cx dX9_lateOnes_29 (by decide) ?_
        refine g_iald (pc := 30) cx (LTramWiresModel_st h0) dX9_lateOnes_30 hf (fun hf => ?_)
        refine g_aload_n (pc := 31) cx dX9_lateOnes_31 rfl 0 rfl ?_
        refine g_iload_n (pc := 32) cx dX9_lateOnes_32 rfl 2 rfl ?_
        refine g_bipush (pc := 33) (v := 6) cx dX9_lateOnes_33 (by decide) ?_
        obtain ⟨q6, M4, hc5, hf⟩ := obn_some2 hf
        refine g_callVi (pc := 35) [.int x2, .int 6] [.int (M1 (a0 + 1) (ix 3)), .int x1] cx lk_X9_37 vw_X9 (LTramWiresModel_o h0) (by decide) (c_X9_of h0 hc5) dX9_lateOnes_35 (Nat.le_of_ble_eq_true rfl) ?_
        refine g_icmp_le (pc := 38) (tgt := 45) cx dX9_lateOnes_38 rfl hf (fun hf => ?_) (fun hf => ?_)
        · refine g_iconst (pc := 41) (v := 1) cx dX9_lateOnes_41 (by decide) ?_
          refine g_goto (pc := 42) (tgt := 46) cx dX9_lateOnes_42 rfl ?_
          refine g_sub [0, 2] [(0, .ref a0), (2, .int x2)] rfl ?_
          exact w_X9_lateOnes_46 cx en h0 (fun _ _ _ hf => ih hf) hf
        · refine g_sub [0, 2] [(0, .ref a0), (2, .int x2)] rfl ?_
          exact w_X9_lateOnes_45 cx en h0 (fun _ _ _ hf => ih hf) hf
      · refine g_sub [0, 2] [(0, .ref a0), (2, .int x2)] rfl ?_
        exact w_X9_lateOnes_45 cx en h0 (fun _ _ _ hf => ih hf) hf
    · refine g_iload_n (pc := 54) cx dX9_lateOnes_54 rfl 1 rfl ?_
      exact g_iret (pc := 55) cx en dX9_lateOnes_55 rfl hf
set_option maxHeartbeats 4000000 in
set_option maxRecDepth 100000 in
theorem c_X9_lateOnes {l : Launch} {w : Wp} {L : Ly} {a0 : Nat} {M : Mm} {R0 : Int32 × Mm} (h0 : LTramWiresModel w L (a0)) (hf : f_X9_lateOnes a0 M = some R0) : CT l w L yX9_lateOnes cX9_lateOnes 3 (some .int) 1 [.ref a0] M R0 := by
  unfold f_X9_lateOnes at hf
  refine CT_of pn_X9 (Nat.le_of_ble_eq_true rfl) (fun E cx en => ?_)
  have cx : Ok w L E RX9 cX9_lateOnes 3 1 := cx
  show G l w L E M [(0, .ref a0)] 0 []
  refine g_iconst (pc := 0) (v := 0) cx dX9_lateOnes_0 (by decide) ?_
  refine g_istore_n (pc := 1) cx [(1, .int 0), (0, .ref a0)] dX9_lateOnes_1 rfl (by decide) rfl ?_
  refine g_iconst (pc := 2) (v := 0) cx dX9_lateOnes_2 (by decide) ?_
  refine g_istore_n (pc := 3) cx [(2, .int 0), (1, .int 0), (0, .ref a0)] dX9_lateOnes_3 rfl (by decide) rfl ?_
  refine g_sub [2, 1, 0] [(0, .ref a0), (1, .int 0), (2, .int 0)] rfl ?_
  exact w_X9_lateOnes_4 cx en h0 FU hf
/-! X9_count -/
def b_X9_count_80 (a0 : Nat) (M : Mm) (x1 : Int32) : OR := ckd x1 233 (some ((M (a0 + 1) (ix x1)), M))
def f_X9_count (a0 : Nat) (M : Mm) (x1 : Int32) : OR := if x1 = 0 then b_X9_count_80 a0 M x1 else if x1 = 1 then b_X9_count_80 a0 M x1 else if x1 = 2 then b_X9_count_80 a0 M x1 else if x1 = 3 then obn (f_X9_free a0 M) fun q3 M1 => (some (q3, M1)) else if x1 = 4 then obn (f_X9_liveNow a0 M) fun q6 M4 => (obn (f_X9_bits M4 q6) fun q9 M7 => (some (q9, M7))) else if x1 = 5 then obn (f_X9_with a0 M 2) fun q12 M10 => (obn (f_X9_bits M10 q12) fun q15 M13 => (some (q15, M13))) else if x1 = 6 then obn (f_X9_with a0 M 4) fun q18 M16 => (obn (f_X9_bits M16 q18) fun q21 M19 => (some (q21, M19))) else if x1 = 7 then obn (f_X9_toolsLeft a0 M) fun q24 M22 => (some (q24, M22)) else if x1 = 8 then ckd 3 233 (some ((M (a0 + 1) (ix 3)), M)) else if x1 = 9 then ckd 4 233 (some ((M (a0 + 1) (ix 4)), M)) else if x1 = 10 then ckd 5 233 (some ((M (a0 + 1) (ix 5)), M)) else if x1 = 11 then ckd 6 233 (some ((M (a0 + 1) (ix 6)), M)) else if x1 = 12 then obn (f_X9_lateOnes a0 M) fun q27 M25 => (some (q27, M25)) else if x1 = 13 then obn (f_X9_groups a0 M) fun q30 M28 => (some (q30, M28)) else if x1 = 14 then some ((M a0 3), M) else if x1 = 15 then some ((M a0 5), M) else some ((-1), M)
set_option maxHeartbeats 4000000 in
set_option maxRecDepth 100000 in
theorem w_X9_count_80 {l : Launch} {w : Wp} {L : Ly} {E : Cx} {a0 : Nat} {x1 : Int32} {R0 : Int32 × Mm} (cx : Ok w L E RX9 cX9_count 2 4) (en : En w L E (some .int) R0) (h0 : LTramWiresModel w L (a0)) {M : Mm} (hf : b_X9_count_80 a0 M x1 = some R0) : G l w L E M [(0, .ref a0), (1, .int x1)] 80 [] := by
  unfold b_X9_count_80 at hf
  refine g_aload_n (pc := 80) cx dX9_count_80 rfl 0 rfl ?_
  refine fg_X9_7 (pc := 81) cx dX9_count_81 h0 ?_
  refine g_iload_n (pc := 84) cx dX9_count_84 rfl 1 rfl ?_
  refine g_iald (pc := 85) cx (LTramWiresModel_st h0) dX9_count_85 hf (fun hf => ?_)
  exact g_iret (pc := 86) cx en dX9_count_86 rfl hf
set_option maxHeartbeats 4000000 in
set_option maxRecDepth 100000 in
theorem c_X9_count {l : Launch} {w : Wp} {L : Ly} {a0 : Nat} {M : Mm} {x1 : Int32} {R0 : Int32 × Mm} (h0 : LTramWiresModel w L (a0)) (hf : f_X9_count a0 M x1 = some R0) : CT l w L yX9_count cX9_count 2 (some .int) 4 [.ref a0, .int x1] M R0 := by
  unfold f_X9_count at hf
  refine CT_of pn_X9 (Nat.le_of_ble_eq_true rfl) (fun E cx en => ?_)
  have cx : Ok w L E RX9 cX9_count 2 4 := cx
  show G l w L E M [(0, .ref a0), (1, .int x1)] 0 []
  refine g_iload_n (pc := 0) cx dX9_count_0 rfl 1 rfl ?_
  refine g_swk (pc := 1) (kx := 0) (off := 79) (tgt := 80) cx dX9_count_1 (by decide) (by decide) (by decide) (by decide) hf (fun hf => ?_) (fun n0 hf => ?_)
  · exact w_X9_count_80 cx en h0 hf
  refine g_swk (pc := 1) (kx := 1) (off := 79) (tgt := 80) cx dX9_count_1 (by decide) (by decide) (by decide) (by decide) hf (fun hf => ?_) (fun n1 hf => ?_)
  · exact w_X9_count_80 cx en h0 hf
  refine g_swk (pc := 1) (kx := 2) (off := 79) (tgt := 80) cx dX9_count_1 (by decide) (by decide) (by decide) (by decide) hf (fun hf => ?_) (fun n2 hf => ?_)
  · exact w_X9_count_80 cx en h0 hf
  refine g_swk (pc := 1) (kx := 3) (off := 86) (tgt := 87) cx dX9_count_1 (by decide) (by decide) (by decide) (by decide) hf (fun hf => ?_) (fun n3 hf => ?_)
  · refine g_aload_n (pc := 87) cx dX9_count_87 rfl 0 rfl ?_
    obtain ⟨q3, M1, hc2, hf⟩ := obn_some2 hf
    refine g_callVi (pc := 88) [] [] cx lk_X9_101 vw_X9 (LTramWiresModel_o h0) (by decide) (c_X9_free h0 hc2) dX9_count_88 (Nat.le_of_ble_eq_true rfl) ?_
    exact g_iret (pc := 91) cx en dX9_count_91 rfl hf
  refine g_swk (pc := 1) (kx := 4) (off := 91) (tgt := 92) cx dX9_count_1 (by decide) (by decide) (by decide) (by decide) hf (fun hf => ?_) (fun n4 hf => ?_)
  · refine g_aload_n (pc := 92) cx dX9_count_92 rfl 0 rfl ?_
    obtain ⟨q6, M4, hc5, hf⟩ := obn_some2 hf
    refine g_callVi (pc := 93) [] [] cx lk_X9_57 vw_X9 (LTramWiresModel_o h0) (by decide) (c_X9_liveNow h0 hc5) dX9_count_93 (Nat.le_of_ble_eq_true rfl) ?_
    obtain ⟨q9, M7, hc8, hf⟩ := obn_some2 hf
    refine g_callSi (pc := 96) [.int q6] [] cx lk_X9_110 (by decide) (c_X9_bits hc8) dX9_count_96 (Nat.le_of_ble_eq_true rfl) ?_
    exact g_iret (pc := 99) cx en dX9_count_99 rfl hf
  refine g_swk (pc := 1) (kx := 5) (off := 99) (tgt := 100) cx dX9_count_1 (by decide) (by decide) (by decide) (by decide) hf (fun hf => ?_) (fun n5 hf => ?_)
  · refine g_aload_n (pc := 100) cx dX9_count_100 rfl 0 rfl ?_
    refine g_iconst (pc := 101) (v := 2) cx dX9_count_101 (by decide) ?_
    obtain ⟨q12, M10, hc11, hf⟩ := obn_some2 hf
    refine g_callVi (pc := 102) [.int 2] [] cx lk_X9_40 vw_X9 (LTramWiresModel_o h0) (by decide) (c_X9_with h0 hc11) dX9_count_102 (Nat.le_of_ble_eq_true rfl) ?_
    obtain ⟨q15, M13, hc14, hf⟩ := obn_some2 hf
    refine g_callSi (pc := 105) [.int q12] [] cx lk_X9_110 (by decide) (c_X9_bits hc14) dX9_count_105 (Nat.le_of_ble_eq_true rfl) ?_
    exact g_iret (pc := 108) cx en dX9_count_108 rfl hf
  refine g_swk (pc := 1) (kx := 6) (off := 108) (tgt := 109) cx dX9_count_1 (by decide) (by decide) (by decide) (by decide) hf (fun hf => ?_) (fun n6 hf => ?_)
  · refine g_aload_n (pc := 109) cx dX9_count_109 rfl 0 rfl ?_
    refine g_iconst (pc := 110) (v := 4) cx dX9_count_110 (by decide) ?_
    obtain ⟨q18, M16, hc17, hf⟩ := obn_some2 hf
    refine g_callVi (pc := 111) [.int 4] [] cx lk_X9_40 vw_X9 (LTramWiresModel_o h0) (by decide) (c_X9_with h0 hc17) dX9_count_111 (Nat.le_of_ble_eq_true rfl) ?_
    obtain ⟨q21, M19, hc20, hf⟩ := obn_some2 hf
    refine g_callSi (pc := 114) [.int q18] [] cx lk_X9_110 (by decide) (c_X9_bits hc20) dX9_count_114 (Nat.le_of_ble_eq_true rfl) ?_
    exact g_iret (pc := 117) cx en dX9_count_117 rfl hf
  refine g_swk (pc := 1) (kx := 7) (off := 117) (tgt := 118) cx dX9_count_1 (by decide) (by decide) (by decide) (by decide) hf (fun hf => ?_) (fun n7 hf => ?_)
  · refine g_aload_n (pc := 118) cx dX9_count_118 rfl 0 rfl ?_
    obtain ⟨q24, M22, hc23, hf⟩ := obn_some2 hf
    refine g_callVi (pc := 119) [] [] cx lk_X9_123 vw_X9 (LTramWiresModel_o h0) (by decide) (c_X9_toolsLeft h0 hc23) dX9_count_119 (Nat.le_of_ble_eq_true rfl) ?_
    exact g_iret (pc := 122) cx en dX9_count_122 rfl hf
  refine g_swk (pc := 1) (kx := 8) (off := 122) (tgt := 123) cx dX9_count_1 (by decide) (by decide) (by decide) (by decide) hf (fun hf => ?_) (fun n8 hf => ?_)
  · refine g_aload_n (pc := 123) cx dX9_count_123 rfl 0 rfl ?_
    refine fg_X9_7 (pc := 124) cx dX9_count_124 h0 ?_
    refine g_iconst (pc := 127) (v := 3) cx dX9_count_127 (by decide) ?_
    refine g_iald (pc := 128) cx (LTramWiresModel_st h0) dX9_count_128 hf (fun hf => ?_)
    exact g_iret (pc := 129) cx en dX9_count_129 rfl hf
  refine g_swk (pc := 1) (kx := 9) (off := 129) (tgt := 130) cx dX9_count_1 (by decide) (by decide) (by decide) (by decide) hf (fun hf => ?_) (fun n9 hf => ?_)
  · refine g_aload_n (pc := 130) cx dX9_count_130 rfl 0 rfl ?_
    refine fg_X9_7 (pc := 131) cx dX9_count_131 h0 ?_
    refine g_iconst (pc := 134) (v := 4) cx dX9_count_134 (by decide) ?_
    refine g_iald (pc := 135) cx (LTramWiresModel_st h0) dX9_count_135 hf (fun hf => ?_)
    exact g_iret (pc := 136) cx en dX9_count_136 rfl hf
  refine g_swk (pc := 1) (kx := 10) (off := 136) (tgt := 137) cx dX9_count_1 (by decide) (by decide) (by decide) (by decide) hf (fun hf => ?_) (fun n10 hf => ?_)
  · refine g_aload_n (pc := 137) cx dX9_count_137 rfl 0 rfl ?_
    refine fg_X9_7 (pc := 138) cx dX9_count_138 h0 ?_
    refine g_iconst (pc := 141) (v := 5) cx dX9_count_141 (by decide) ?_
    refine g_iald (pc := 142) cx (LTramWiresModel_st h0) dX9_count_142 hf (fun hf => ?_)
    exact g_iret (pc := 143) cx en dX9_count_143 rfl hf
  refine g_swk (pc := 1) (kx := 11) (off := 143) (tgt := 144) cx dX9_count_1 (by decide) (by decide) (by decide) (by decide) hf (fun hf => ?_) (fun n11 hf => ?_)
  · refine g_aload_n (pc := 144) cx dX9_count_144 rfl 0 rfl ?_
    refine fg_X9_7 (pc := 145) cx dX9_count_145 h0 ?_
    refine g_bipush (pc := 148) (v := 6) cx dX9_count_148 (by decide) ?_
    refine g_iald (pc := 150) cx (LTramWiresModel_st h0) dX9_count_150 hf (fun hf => ?_)
    exact g_iret (pc := 151) cx en dX9_count_151 rfl hf
  refine g_swk (pc := 1) (kx := 12) (off := 151) (tgt := 152) cx dX9_count_1 (by decide) (by decide) (by decide) (by decide) hf (fun hf => ?_) (fun n12 hf => ?_)
  · refine g_aload_n (pc := 152) cx dX9_count_152 rfl 0 rfl ?_
    obtain ⟨q27, M25, hc26, hf⟩ := obn_some2 hf
    refine g_callVi (pc := 153) [] [] cx lk_X9_126 vw_X9 (LTramWiresModel_o h0) (by decide) (c_X9_lateOnes h0 hc26) dX9_count_153 (Nat.le_of_ble_eq_true rfl) ?_
    exact g_iret (pc := 156) cx en dX9_count_156 rfl hf
  refine g_swk (pc := 1) (kx := 13) (off := 156) (tgt := 157) cx dX9_count_1 (by decide) (by decide) (by decide) (by decide) hf (fun hf => ?_) (fun n13 hf => ?_)
  · refine g_aload_n (pc := 157) cx dX9_count_157 rfl 0 rfl ?_
    obtain ⟨q30, M28, hc29, hf⟩ := obn_some2 hf
    refine g_callVi (pc := 158) [] [] cx lk_X9_129 vw_X9 (LTramWiresModel_o h0) (by decide) (c_X9_groups h0 hc29) dX9_count_158 (Nat.le_of_ble_eq_true rfl) ?_
    exact g_iret (pc := 161) cx en dX9_count_161 rfl hf
  refine g_swk (pc := 1) (kx := 14) (off := 161) (tgt := 162) cx dX9_count_1 (by decide) (by decide) (by decide) (by decide) hf (fun hf => ?_) (fun n14 hf => ?_)
  · refine g_aload_n (pc := 162) cx dX9_count_162 rfl 0 rfl ?_
    refine fg_X9_29 (pc := 163) cx dX9_count_163 h0 ?_
    exact g_iret (pc := 166) cx en dX9_count_166 rfl hf
  refine g_swk (pc := 1) (kx := 15) (off := 166) (tgt := 167) cx dX9_count_1 (by decide) (by decide) (by decide) (by decide) hf (fun hf => ?_) (fun n15 hf => ?_)
  · refine g_aload_n (pc := 167) cx dX9_count_167 rfl 0 rfl ?_
    refine fg_X9_132 (pc := 168) cx dX9_count_168 h0 ?_
    exact g_iret (pc := 171) cx en dX9_count_171 rfl hf
  refine g_swo (pc := 1) (tgt := 172) cx dX9_count_1 ?_ (by decide) ?_
  · have q0 := lv_neT n0 (a := 0) (by decide)
    have q1 := lv_neT n1 (a := 1) (by decide)
    have q2 := lv_neT n2 (a := 2) (by decide)
    have q3 := lv_neT n3 (a := 3) (by decide)
    have q4 := lv_neT n4 (a := 4) (by decide)
    have q5 := lv_neT n5 (a := 5) (by decide)
    have q6 := lv_neT n6 (a := 6) (by decide)
    have q7 := lv_neT n7 (a := 7) (by decide)
    have q8 := lv_neT n8 (a := 8) (by decide)
    have q9 := lv_neT n9 (a := 9) (by decide)
    have q10 := lv_neT n10 (a := 10) (by decide)
    have q11 := lv_neT n11 (a := 11) (by decide)
    have q12 := lv_neT n12 (a := 12) (by decide)
    have q13 := lv_neT n13 (a := 13) (by decide)
    have q14 := lv_neT n14 (a := 14) (by decide)
    have q15 := lv_neT n15 (a := 15) (by decide)
    omega
  · refine g_iconst (pc := 172) (v := (-1)) cx dX9_count_172 (by decide) ?_
    exact g_iret (pc := 173) cx en dX9_count_173 rfl hf
/-! X9_isPlace -/
def b_X9_isPlace_23 (a0 : Nat) (M : Mm) (s0 : Int32) : OR := zrk s0 (some (s0, M))
def b_X9_isPlace_10 (a0 : Nat) (M : Mm) (x2 : Int32) : OR := obn (f_X9_isIsolator a0 M x2) fun q3 M1 => (b_X9_isPlace_23 a0 M1 q3)
def f_X9_isPlace (a0 : Nat) (M : Mm) (x1 x2 : Int32) : OR := if x1 = 2 then b_X9_isPlace_10 a0 M x2 else if x1 = 3 then b_X9_isPlace_10 a0 M x2 else obn (f_X9_isSection a0 M x2) fun q3 M1 => (b_X9_isPlace_23 a0 M1 q3)
set_option maxHeartbeats 4000000 in
set_option maxRecDepth 100000 in
theorem w_X9_isPlace_23 {l : Launch} {w : Wp} {L : Ly} {E : Cx} {a0 : Nat} {s0 : Int32} {R0 : Int32 × Mm} (cx : Ok w L E RX9 cX9_isPlace 3 2) (en : En w L E (some .boolean) R0) (h0 : LTramWiresModel w L (a0)) {M : Mm} (hf : b_X9_isPlace_23 a0 M s0 = some R0) : G l w L E M [] 23 [.int s0] := by
  unfold b_X9_isPlace_23 at hf
  exact g_zret (pc := 23) cx en dX9_isPlace_23 hf
set_option maxHeartbeats 4000000 in
set_option maxRecDepth 100000 in
theorem w_X9_isPlace_10 {l : Launch} {w : Wp} {L : Ly} {E : Cx} {a0 : Nat} {x2 : Int32} {R0 : Int32 × Mm} (cx : Ok w L E RX9 cX9_isPlace 3 2) (en : En w L E (some .boolean) R0) (h0 : LTramWiresModel w L (a0)) {M : Mm} (hf : b_X9_isPlace_10 a0 M x2 = some R0) : G l w L E M [(0, .ref a0), (2, .int x2)] 10 [] := by
  unfold b_X9_isPlace_10 at hf
  refine g_aload_n (pc := 10) cx dX9_isPlace_10 rfl 0 rfl ?_
  refine g_iload_n (pc := 11) cx dX9_isPlace_11 rfl 1 rfl ?_
  obtain ⟨q3, M1, hc2, hf⟩ := obn_some2 hf
  refine g_callVi (pc := 12) [.int x2] [] cx lk_X9_116 vw_X9 (LTramWiresModel_o h0) (by decide) (c_X9_isIsolator h0 hc2) dX9_isPlace_12 (Nat.le_of_ble_eq_true rfl) ?_
  refine g_goto (pc := 15) (tgt := 23) cx dX9_isPlace_15 rfl ?_
  refine g_sub [] [] rfl ?_
  exact w_X9_isPlace_23 cx en h0 hf
set_option maxHeartbeats 4000000 in
set_option maxRecDepth 100000 in
theorem c_X9_isPlace {l : Launch} {w : Wp} {L : Ly} {a0 : Nat} {M : Mm} {x1 x2 : Int32} {R0 : Int32 × Mm} (h0 : LTramWiresModel w L (a0)) (hf : f_X9_isPlace a0 M x1 x2 = some R0) : CT l w L yX9_isPlace cX9_isPlace 3 (some .boolean) 2 [.ref a0, .int x1, .int x2] M R0 := by
  unfold f_X9_isPlace at hf
  refine CT_of pn_X9 (Nat.le_of_ble_eq_true rfl) (fun E cx en => ?_)
  have cx : Ok w L E RX9 cX9_isPlace 3 2 := cx
  show G l w L E M [(0, .ref a0), (1, .int x1), (2, .int x2)] 0 []
  refine g_iload_n (pc := 0) cx dX9_isPlace_0 rfl 1 rfl ?_
  refine g_iconst (pc := 1) (v := 2) cx dX9_isPlace_1 (by decide) ?_
  refine g_icmp_eq (pc := 2) (tgt := 10) cx dX9_isPlace_2 rfl hf (fun hf => ?_) (fun hf => ?_)
  · refine g_sub [0, 2] [(0, .ref a0), (2, .int x2)] rfl ?_
    exact w_X9_isPlace_10 cx en h0 hf
  · refine g_iload_n (pc := 5) cx dX9_isPlace_5 rfl 1 rfl ?_
    refine g_iconst (pc := 6) (v := 3) cx dX9_isPlace_6 (by decide) ?_
    refine g_icmp_ne (pc := 7) (tgt := 18) cx dX9_isPlace_7 rfl hf (fun hf => ?_) (fun hf => ?_)
    · refine g_sub [0, 2] [(0, .ref a0), (2, .int x2)] rfl ?_
      exact w_X9_isPlace_10 cx en h0 hf
    · refine g_aload_n (pc := 18) cx dX9_isPlace_18 rfl 0 rfl ?_
      refine g_iload_n (pc := 19) cx dX9_isPlace_19 rfl 2 rfl ?_
      obtain ⟨q3, M1, hc2, hf⟩ := obn_some2 hf
      refine g_callVi (pc := 20) [.int x2] [] cx lk_X9_86 vw_X9 (LTramWiresModel_o h0) (by decide) (c_X9_isSection h0 hc2) dX9_isPlace_20 (Nat.le_of_ble_eq_true rfl) ?_
      refine g_sub [] [] rfl ?_
      exact w_X9_isPlace_23 cx en h0 hf
/-! X9_darkens -/
def b_X9_darkens_21 (a0 : Nat) (M : Mm) (s0 : Int32) : OR := some (s0, M)
def f_X9_darkens (a0 : Nat) (M : Mm) (x1 x2 : Int32) : OR := obn (f_X9_liveNow a0 M) fun q3 M1 => (obn (f_X9_trams a0 M1) fun q6 M4 => (if ((q3 &&& (x1 ^^^ (-1))) &&& q6) = 0 then b_X9_darkens_21 a0 M4 0 else b_X9_darkens_21 a0 M4 x2))
set_option maxHeartbeats 4000000 in
set_option maxRecDepth 100000 in
theorem w_X9_darkens_21 {l : Launch} {w : Wp} {L : Ly} {E : Cx} {a0 : Nat} {s0 : Int32} {R0 : Int32 × Mm} (cx : Ok w L E RX9 cX9_darkens 3 4) (en : En w L E (some .int) R0) (h0 : LTramWiresModel w L (a0)) {M : Mm} (hf : b_X9_darkens_21 a0 M s0 = some R0) : G l w L E M [] 21 [.int s0] := by
  unfold b_X9_darkens_21 at hf
  exact g_iret (pc := 21) cx en dX9_darkens_21 rfl hf
set_option maxHeartbeats 4000000 in
set_option maxRecDepth 100000 in
theorem c_X9_darkens {l : Launch} {w : Wp} {L : Ly} {a0 : Nat} {M : Mm} {x1 x2 : Int32} {R0 : Int32 × Mm} (h0 : LTramWiresModel w L (a0)) (hf : f_X9_darkens a0 M x1 x2 = some R0) : CT l w L yX9_darkens cX9_darkens 3 (some .int) 4 [.ref a0, .int x1, .int x2] M R0 := by
  unfold f_X9_darkens at hf
  refine CT_of pn_X9 (Nat.le_of_ble_eq_true rfl) (fun E cx en => ?_)
  have cx : Ok w L E RX9 cX9_darkens 3 4 := cx
  show G l w L E M [(0, .ref a0), (1, .int x1), (2, .int x2)] 0 []
  refine g_aload_n (pc := 0) cx dX9_darkens_0 rfl 0 rfl ?_
  obtain ⟨q3, M1, hc2, hf⟩ := obn_some2 hf
  refine g_callVi (pc := 1) [] [] cx lk_X9_57 vw_X9 (LTramWiresModel_o h0) (by decide) (c_X9_liveNow h0 hc2) dX9_darkens_1 (Nat.le_of_ble_eq_true rfl) ?_
  refine g_iload_n (pc := 4) cx dX9_darkens_4 rfl 1 rfl ?_
  refine g_iconst (pc := 5) (v := (-1)) cx dX9_darkens_5 (by decide) ?_
  refine g_ixor (pc := 6) cx dX9_darkens_6 ?_
  refine g_iand (pc := 7) cx dX9_darkens_7 ?_
  refine g_aload_n (pc := 8) cx dX9_darkens_8 rfl 0 rfl ?_
  obtain ⟨q6, M4, hc5, hf⟩ := obn_some2 hf
  refine g_callVi (pc := 9) [] [.int (q3 &&& (x1 ^^^ (-1)))] cx lk_X9_135 vw_X9 (LTramWiresModel_o h0) (by decide) (c_X9_trams h0 hc5) dX9_darkens_9 (Nat.le_of_ble_eq_true rfl) ?_
  refine g_iand (pc := 12) cx dX9_darkens_12 ?_
  refine g_if_eq (pc := 13) (tgt := 20) cx dX9_darkens_13 rfl hf (fun hf => ?_) (fun hf => ?_)
  · refine g_iconst (pc := 20) (v := 0) cx dX9_darkens_20 (by decide) ?_
    refine g_sub [] [] rfl ?_
    exact w_X9_darkens_21 cx en h0 hf
  · refine g_iload_n (pc := 16) cx dX9_darkens_16 rfl 2 rfl ?_
    refine g_goto (pc := 17) (tgt := 21) cx dX9_darkens_17 rfl ?_
    refine g_sub [] [] rfl ?_
    exact w_X9_darkens_21 cx en h0 hf
/-! X9_lights -/
def b_X9_lights_23 (a0 : Nat) (M : Mm) (s0 : Int32) : OR := some (s0, M)
def f_X9_lights (a0 : Nat) (M : Mm) (x1 x2 : Int32) : OR := obn (f_X9_liveNow a0 M) fun q3 M1 => (obn (f_X9_against a0 M1 q3 x1) fun q6 M4 => (if q6 = 0 then b_X9_lights_23 a0 M4 0 else b_X9_lights_23 a0 M4 ((x2 + q6) - 1)))
set_option maxHeartbeats 4000000 in
set_option maxRecDepth 100000 in
theorem w_X9_lights_23 {l : Launch} {w : Wp} {L : Ly} {E : Cx} {a0 : Nat} {s0 : Int32} {R0 : Int32 × Mm} (cx : Ok w L E RX9 cX9_lights 4 4) (en : En w L E (some .int) R0) (h0 : LTramWiresModel w L (a0)) {M : Mm} (hf : b_X9_lights_23 a0 M s0 = some R0) : G l w L E M [] 23 [.int s0] := by
  unfold b_X9_lights_23 at hf
  exact g_iret (pc := 23) cx en dX9_lights_23 rfl hf
set_option maxHeartbeats 4000000 in
set_option maxRecDepth 100000 in
theorem c_X9_lights {l : Launch} {w : Wp} {L : Ly} {a0 : Nat} {M : Mm} {x1 x2 : Int32} {R0 : Int32 × Mm} (h0 : LTramWiresModel w L (a0)) (hf : f_X9_lights a0 M x1 x2 = some R0) : CT l w L yX9_lights cX9_lights 4 (some .int) 4 [.ref a0, .int x1, .int x2] M R0 := by
  unfold f_X9_lights at hf
  refine CT_of pn_X9 (Nat.le_of_ble_eq_true rfl) (fun E cx en => ?_)
  have cx : Ok w L E RX9 cX9_lights 4 4 := cx
  show G l w L E M [(0, .ref a0), (1, .int x1), (2, .int x2)] 0 []
  refine g_aload_n (pc := 0) cx dX9_lights_0 rfl 0 rfl ?_
  refine g_aload_n (pc := 1) cx dX9_lights_1 rfl 0 rfl ?_
  obtain ⟨q3, M1, hc2, hf⟩ := obn_some2 hf
  refine g_callVi (pc := 2) [] [.ref a0] cx lk_X9_57 vw_X9 (LTramWiresModel_o h0) (by decide) (c_X9_liveNow h0 hc2) dX9_lights_2 (Nat.le_of_ble_eq_true rfl) ?_
  refine g_iload_n (pc := 5) cx dX9_lights_5 rfl 1 rfl ?_
  obtain ⟨q6, M4, hc5, hf⟩ := obn_some2 hf
  refine g_callVi (pc := 6) [.int q3, .int x1] [] cx lk_X9_83 vw_X9 (LTramWiresModel_o h0) (by decide) (c_X9_against h0 hc5) dX9_lights_6 (Nat.le_of_ble_eq_true rfl) ?_
  refine g_istore_n (pc := 9) cx [(3, .int q6), (0, .ref a0), (1, .int x1), (2, .int x2)] dX9_lights_9 rfl (by decide) rfl ?_
  refine g_iload_n (pc := 10) cx dX9_lights_10 rfl 0 rfl ?_
  refine g_if_ne (pc := 11) (tgt := 18) cx dX9_lights_11 rfl hf (fun hf => ?_) (fun hf => ?_)
  · refine g_iconst (pc := 14) (v := 0) cx dX9_lights_14 (by decide) ?_
    refine g_goto (pc := 15) (tgt := 23) cx dX9_lights_15 rfl ?_
    refine g_sub [] [] rfl ?_
    exact w_X9_lights_23 cx en h0 hf
  · refine g_iload_n (pc := 18) cx dX9_lights_18 rfl 3 rfl ?_
    refine g_iload_n (pc := 19) cx dX9_lights_19 rfl 0 rfl ?_
    refine g_iadd (pc := 20) cx dX9_lights_20 ?_
    refine g_iconst (pc := 21) (v := 1) cx dX9_lights_21 (by decide) ?_
    refine g_isub (pc := 22) cx dX9_lights_22 ?_
    refine g_sub [] [] rfl ?_
    exact w_X9_lights_23 cx en h0 hf
/-! X9_refuses -/
def b_X9_refuses_78 (a0 : Nat) (M : Mm) (s0 : Int32) : OR := some (s0, M)
def b_X9_refuses_122 (a0 : Nat) (M : Mm) (s0 : Int32) : OR := some (s0, M)
def b_X9_refuses_149 (a0 : Nat) (M : Mm) (s0 : Int32) : OR := some (s0, M)
def b_X9_refuses_177 (a0 : Nat) (M : Mm) (s0 : Int32) : OR := some (s0, M)
def b_X9_refuses_217 (a0 : Nat) (M : Mm) (s0 : Int32) : OR := some (s0, M)
def b_X9_refuses_255 (a0 : Nat) (M : Mm) (s0 : Int32) : OR := some (s0, M)
def b_X9_refuses_299 (a0 : Nat) (M : Mm) (s0 : Int32) : OR := some (s0, M)
def b_X9_refuses_330 (a0 : Nat) (M : Mm) (s0 : Int32) : OR := some (s0, M)
def f_X9_refuses (a0 : Nat) (M : Mm) (x1 x2 : Int32) : OR := if x1 = 0 then obn (f_X9_of a0 M x2 2) fun q3 M1 => (if q3 = 1 then b_X9_refuses_78 a0 M1 11 else obn (f_X9_free a0 M1) fun q6 M4 => (obn (f_X9_of a0 M4 x2 0) fun q9 M7 => (if q6 < q9 then b_X9_refuses_78 a0 M7 12 else b_X9_refuses_78 a0 M7 0))) else if x1 = 1 then obn (f_X9_of a0 M x2 2) fun q12 M10 => (if q12 = 0 then b_X9_refuses_122 a0 M10 21 else obn (f_X9_isLive a0 M10 x2) fun q15 M13 => (if q15 = 0 then b_X9_refuses_122 a0 M13 22 else obn (f_X9_of a0 M13 x2 7) fun q18 M16 => (if 0 < q18 then b_X9_refuses_122 a0 M16 23 else b_X9_refuses_122 a0 M16 0))) else if x1 = 2 then obn (f_X9_at a0 M x2 2) fun q21 M19 => (if q21 = 0 then b_X9_refuses_149 a0 M19 31 else obn (f_X9_liveWith a0 M19 x2 0) fun q24 M22 => (obn (f_X9_darkens a0 M22 q24 32) fun q27 M25 => (b_X9_refuses_149 a0 M25 q27))) else if x1 = 3 then obn (f_X9_at a0 M x2 2) fun q30 M28 => (if q30 = 1 then b_X9_refuses_177 a0 M28 41 else obn (f_X9_liveWith a0 M28 x2 1) fun q33 M31 => (obn (f_X9_lights a0 M31 q33 42) fun q36 M34 => (b_X9_refuses_177 a0 M34 q36))) else if x1 = 4 then obn (f_X9_of a0 M x2 1) fun q39 M37 => (if q39 = 2 then obn (f_X9_onOnes a0 M37) fun q42 M40 => (obn (f_X9_closedOnes a0 M40) fun q45 M43 => (obn (f_X9_live a0 M43 (q42 &&& ((1 <<< (x2 &&& 31)) ^^^ (-1))) q45) fun q48 M46 => (obn (f_X9_darkens a0 M46 q48 52) fun q51 M49 => (b_X9_refuses_217 a0 M49 q51)))) else b_X9_refuses_217 a0 M37 51) else if x1 = 5 then obn (f_X9_of a0 M x2 1) fun q54 M52 => (if q54 = 1 then obn (f_X9_onOnes a0 M52) fun q57 M55 => (obn (f_X9_closedOnes a0 M55) fun q60 M58 => (obn (f_X9_live a0 M58 (q57 ||| (1 <<< (x2 &&& 31))) q60) fun q63 M61 => (obn (f_X9_lights a0 M61 q63 62) fun q66 M64 => (b_X9_refuses_255 a0 M64 q66)))) else b_X9_refuses_255 a0 M52 61) else if x1 = 6 then obn (f_X9_of a0 M x2 3) fun q69 M67 => (if q69 = 1 then b_X9_refuses_299 a0 M67 71 else obn (f_X9_isLive a0 M67 x2) fun q72 M70 => (if q72 = 0 then obn (f_X9_of a0 M70 x2 2) fun q75 M73 => (if q75 = 0 then b_X9_refuses_299 a0 M73 73 else b_X9_refuses_299 a0 M73 0) else b_X9_refuses_299 a0 M70 72)) else obn (f_X9_of a0 M x2 3) fun q78 M76 => (if q78 = 0 then b_X9_refuses_330 a0 M76 81 else obn (f_X9_of a0 M76 x2 4) fun q81 M79 => (if q81 = 1 then b_X9_refuses_330 a0 M79 82 else b_X9_refuses_330 a0 M79 0))
set_option maxHeartbeats 4000000 in
set_option maxRecDepth 100000 in
theorem w_X9_refuses_78 {l : Launch} {w : Wp} {L : Ly} {E : Cx} {a0 : Nat} {s0 : Int32} {R0 : Int32 × Mm} (cx : Ok w L E RX9 cX9_refuses 3 5) (en : En w L E (some .int) R0) (h0 : LTramWiresModel w L (a0)) {M : Mm} (hf : b_X9_refuses_78 a0 M s0 = some R0) : G l w L E M [] 78 [.int s0] := by
  unfold b_X9_refuses_78 at hf
  exact g_iret (pc := 78) cx en dX9_refuses_78 rfl hf
set_option maxHeartbeats 4000000 in
set_option maxRecDepth 100000 in
theorem w_X9_refuses_122 {l : Launch} {w : Wp} {L : Ly} {E : Cx} {a0 : Nat} {s0 : Int32} {R0 : Int32 × Mm} (cx : Ok w L E RX9 cX9_refuses 3 5) (en : En w L E (some .int) R0) (h0 : LTramWiresModel w L (a0)) {M : Mm} (hf : b_X9_refuses_122 a0 M s0 = some R0) : G l w L E M [] 122 [.int s0] := by
  unfold b_X9_refuses_122 at hf
  exact g_iret (pc := 122) cx en dX9_refuses_122 rfl hf
set_option maxHeartbeats 4000000 in
set_option maxRecDepth 100000 in
theorem w_X9_refuses_149 {l : Launch} {w : Wp} {L : Ly} {E : Cx} {a0 : Nat} {s0 : Int32} {R0 : Int32 × Mm} (cx : Ok w L E RX9 cX9_refuses 3 5) (en : En w L E (some .int) R0) (h0 : LTramWiresModel w L (a0)) {M : Mm} (hf : b_X9_refuses_149 a0 M s0 = some R0) : G l w L E M [] 149 [.int s0] := by
  unfold b_X9_refuses_149 at hf
  exact g_iret (pc := 149) cx en dX9_refuses_149 rfl hf
set_option maxHeartbeats 4000000 in
set_option maxRecDepth 100000 in
theorem w_X9_refuses_177 {l : Launch} {w : Wp} {L : Ly} {E : Cx} {a0 : Nat} {s0 : Int32} {R0 : Int32 × Mm} (cx : Ok w L E RX9 cX9_refuses 3 5) (en : En w L E (some .int) R0) (h0 : LTramWiresModel w L (a0)) {M : Mm} (hf : b_X9_refuses_177 a0 M s0 = some R0) : G l w L E M [] 177 [.int s0] := by
  unfold b_X9_refuses_177 at hf
  exact g_iret (pc := 177) cx en dX9_refuses_177 rfl hf
set_option maxHeartbeats 4000000 in
set_option maxRecDepth 100000 in
theorem w_X9_refuses_217 {l : Launch} {w : Wp} {L : Ly} {E : Cx} {a0 : Nat} {s0 : Int32} {R0 : Int32 × Mm} (cx : Ok w L E RX9 cX9_refuses 3 5) (en : En w L E (some .int) R0) (h0 : LTramWiresModel w L (a0)) {M : Mm} (hf : b_X9_refuses_217 a0 M s0 = some R0) : G l w L E M [] 217 [.int s0] := by
  unfold b_X9_refuses_217 at hf
  exact g_iret (pc := 217) cx en dX9_refuses_217 rfl hf
set_option maxHeartbeats 4000000 in
set_option maxRecDepth 100000 in
theorem w_X9_refuses_255 {l : Launch} {w : Wp} {L : Ly} {E : Cx} {a0 : Nat} {s0 : Int32} {R0 : Int32 × Mm} (cx : Ok w L E RX9 cX9_refuses 3 5) (en : En w L E (some .int) R0) (h0 : LTramWiresModel w L (a0)) {M : Mm} (hf : b_X9_refuses_255 a0 M s0 = some R0) : G l w L E M [] 255 [.int s0] := by
  unfold b_X9_refuses_255 at hf
  exact g_iret (pc := 255) cx en dX9_refuses_255 rfl hf
set_option maxHeartbeats 4000000 in
set_option maxRecDepth 100000 in
theorem w_X9_refuses_299 {l : Launch} {w : Wp} {L : Ly} {E : Cx} {a0 : Nat} {s0 : Int32} {R0 : Int32 × Mm} (cx : Ok w L E RX9 cX9_refuses 3 5) (en : En w L E (some .int) R0) (h0 : LTramWiresModel w L (a0)) {M : Mm} (hf : b_X9_refuses_299 a0 M s0 = some R0) : G l w L E M [] 299 [.int s0] := by
  unfold b_X9_refuses_299 at hf
  exact g_iret (pc := 299) cx en dX9_refuses_299 rfl hf
set_option maxHeartbeats 4000000 in
set_option maxRecDepth 100000 in
theorem w_X9_refuses_330 {l : Launch} {w : Wp} {L : Ly} {E : Cx} {a0 : Nat} {s0 : Int32} {R0 : Int32 × Mm} (cx : Ok w L E RX9 cX9_refuses 3 5) (en : En w L E (some .int) R0) (h0 : LTramWiresModel w L (a0)) {M : Mm} (hf : b_X9_refuses_330 a0 M s0 = some R0) : G l w L E M [] 330 [.int s0] := by
  unfold b_X9_refuses_330 at hf
  exact g_iret (pc := 330) cx en dX9_refuses_330 rfl hf
set_option maxHeartbeats 4000000 in
set_option maxRecDepth 100000 in
theorem c_X9_refuses {l : Launch} {w : Wp} {L : Ly} {a0 : Nat} {M : Mm} {x1 x2 : Int32} {R0 : Int32 × Mm} (h0 : LTramWiresModel w L (a0)) (hf : f_X9_refuses a0 M x1 x2 = some R0) : CT l w L yX9_refuses cX9_refuses 3 (some .int) 5 [.ref a0, .int x1, .int x2] M R0 := by
  unfold f_X9_refuses at hf
  refine CT_of pn_X9 (Nat.le_of_ble_eq_true rfl) (fun E cx en => ?_)
  have cx : Ok w L E RX9 cX9_refuses 3 5 := cx
  show G l w L E M [(0, .ref a0), (1, .int x1), (2, .int x2)] 0 []
  refine g_iload_n (pc := 0) cx dX9_refuses_0 rfl 1 rfl ?_
  refine g_swk (pc := 1) (kx := 0) (off := 43) (tgt := 44) cx dX9_refuses_1 (by decide) (by decide) (by decide) (by decide) hf (fun hf => ?_) (fun n0 hf => ?_)
  · refine g_aload_n (pc := 44) cx dX9_refuses_44 rfl 0 rfl ?_
    refine g_iload_n (pc := 45) cx dX9_refuses_45 rfl 2 rfl ?_
    refine g_iconst (pc := 46) (v := 2) cx dX9_refuses_46 (by decide) ?_
    obtain ⟨q3, M1, hc2, hf⟩ := obn_some2 hf
    refine g_callVi (pc := 47) [.int x2, .int 2] [] cx lk_X9_37 vw_X9 (LTramWiresModel_o h0) (by decide) (c_X9_of h0 hc2) dX9_refuses_47 (Nat.le_of_ble_eq_true rfl) ?_
    refine g_iconst (pc := 50) (v := 1) cx dX9_refuses_50 (by decide) ?_
    refine g_icmp_ne (pc := 51) (tgt := 59) cx dX9_refuses_51 rfl hf (fun hf => ?_) (fun hf => ?_)
    · refine g_bipush (pc := 54) (v := 11) cx dX9_refuses_54 (by decide) ?_
      refine g_goto (pc := 56) (tgt := 78) cx dX9_refuses_56 rfl ?_
      refine g_sub [] [] rfl ?_
      exact w_X9_refuses_78 cx en h0 hf
    · refine g_aload_n (pc := 59) cx dX9_refuses_59 rfl 0 rfl ?_
      obtain ⟨q6, M4, hc5, hf⟩ := obn_some2 hf
      refine g_callVi (pc := 60) [] [] cx lk_X9_101 vw_X9 (LTramWiresModel_o h0) (by decide) (c_X9_free h0 hc5) dX9_refuses_60 (Nat.le_of_ble_eq_true rfl) ?_
      refine g_aload_n (pc := 63) cx dX9_refuses_63 rfl 0 rfl ?_
      refine g_iload_n (pc := 64) cx dX9_refuses_64 rfl 2 rfl ?_
      refine g_iconst (pc := 65) (v := 0) cx dX9_refuses_65 (by decide) ?_
      obtain ⟨q9, M7, hc8, hf⟩ := obn_some2 hf
      refine g_callVi (pc := 66) [.int x2, .int 0] [.int q6] cx lk_X9_37 vw_X9 (LTramWiresModel_o h0) (by decide) (c_X9_of h0 hc8) dX9_refuses_66 (Nat.le_of_ble_eq_true rfl) ?_
      refine g_icmp_ge (pc := 69) (tgt := 77) cx dX9_refuses_69 rfl hf (fun hf => ?_) (fun hf => ?_)
      · refine g_bipush (pc := 72) (v := 12) cx dX9_refuses_72 (by decide) ?_
        refine g_goto (pc := 74) (tgt := 78) cx dX9_refuses_74 rfl ?_
        refine g_sub [] [] rfl ?_
        exact w_X9_refuses_78 cx en h0 hf
      · refine g_iconst (pc := 77) (v := 0) cx dX9_refuses_77 (by decide) ?_
        refine g_sub [] [] rfl ?_
        exact w_X9_refuses_78 cx en h0 hf
  refine g_swk (pc := 1) (kx := 1) (off := 78) (tgt := 79) cx dX9_refuses_1 (by decide) (by decide) (by decide) (by decide) hf (fun hf => ?_) (fun n1 hf => ?_)
  · refine g_aload_n (pc := 79) cx dX9_refuses_79 rfl 0 rfl ?_
    refine g_iload_n (pc := 80) cx dX9_refuses_80 rfl 2 rfl ?_
    refine g_iconst (pc := 81) (v := 2) cx dX9_refuses_81 (by decide) ?_
    obtain ⟨q12, M10, hc11, hf⟩ := obn_some2 hf
    refine g_callVi (pc := 82) [.int x2, .int 2] [] cx lk_X9_37 vw_X9 (LTramWiresModel_o h0) (by decide) (c_X9_of h0 hc11) dX9_refuses_82 (Nat.le_of_ble_eq_true rfl) ?_
    refine g_if_ne (pc := 85) (tgt := 93) cx dX9_refuses_85 rfl hf (fun hf => ?_) (fun hf => ?_)
    · refine g_bipush (pc := 88) (v := 21) cx dX9_refuses_88 (by decide) ?_
      refine g_goto (pc := 90) (tgt := 122) cx dX9_refuses_90 rfl ?_
      refine g_sub [] [] rfl ?_
      exact w_X9_refuses_122 cx en h0 hf
    · refine g_aload_n (pc := 93) cx dX9_refuses_93 rfl 0 rfl ?_
      refine g_iload_n (pc := 94) cx dX9_refuses_94 rfl 2 rfl ?_
      obtain ⟨q15, M13, hc14, hf⟩ := obn_some2 hf
      refine g_callVi (pc := 95) [.int x2] [] cx lk_X9_104 vw_X9 (LTramWiresModel_o h0) (by decide) (c_X9_isLive h0 hc14) dX9_refuses_95 (Nat.le_of_ble_eq_true rfl) ?_
      refine g_if_ne (pc := 98) (tgt := 106) cx dX9_refuses_98 rfl hf (fun hf => ?_) (fun hf => ?_)
      · refine g_bipush (pc := 101) (v := 22) cx dX9_refuses_101 (by decide) ?_
        refine g_goto (pc := 103) (tgt := 122) cx dX9_refuses_103 rfl ?_
        refine g_sub [] [] rfl ?_
        exact w_X9_refuses_122 cx en h0 hf
      · refine g_aload_n (pc := 106) cx dX9_refuses_106 rfl 0 rfl ?_
        refine g_iload_n (pc := 107) cx dX9_refuses_107 rfl 2 rfl ?_
        refine g_bipush (pc := 108) (v := 7) cx dX9_refuses_108 (by decide) ?_
        obtain ⟨q18, M16, hc17, hf⟩ := obn_some2 hf
        refine g_callVi (pc := 110) [.int x2, .int 7] [] cx lk_X9_37 vw_X9 (LTramWiresModel_o h0) (by decide) (c_X9_of h0 hc17) dX9_refuses_110 (Nat.le_of_ble_eq_true rfl) ?_
        refine g_if_le (pc := 113) (tgt := 121) cx dX9_refuses_113 rfl hf (fun hf => ?_) (fun hf => ?_)
        · refine g_bipush (pc := 116) (v := 23) cx dX9_refuses_116 (by decide) ?_
          refine g_goto (pc := 118) (tgt := 122) cx dX9_refuses_118 rfl ?_
          refine g_sub [] [] rfl ?_
          exact w_X9_refuses_122 cx en h0 hf
        · refine g_iconst (pc := 121) (v := 0) cx dX9_refuses_121 (by decide) ?_
          refine g_sub [] [] rfl ?_
          exact w_X9_refuses_122 cx en h0 hf
  refine g_swk (pc := 1) (kx := 2) (off := 122) (tgt := 123) cx dX9_refuses_1 (by decide) (by decide) (by decide) (by decide) hf (fun hf => ?_) (fun n2 hf => ?_)
  · refine g_aload_n (pc := 123) cx dX9_refuses_123 rfl 0 rfl ?_
    refine g_iload_n (pc := 124) cx dX9_refuses_124 rfl 2 rfl ?_
    refine g_iconst (pc := 125) (v := 2) cx dX9_refuses_125 (by decide) ?_
    obtain ⟨q21, M19, hc20, hf⟩ := obn_some2 hf
    refine g_callVi (pc := 126) [.int x2, .int 2] [] cx lk_X9_33 vw_X9 (LTramWiresModel_o h0) (by decide) (c_X9_at h0 hc20) dX9_refuses_126 (Nat.le_of_ble_eq_true rfl) ?_
    refine g_if_ne (pc := 129) (tgt := 137) cx dX9_refuses_129 rfl hf (fun hf => ?_) (fun hf => ?_)
    · refine g_bipush (pc := 132) (v := 31) cx dX9_refuses_132 (by decide) ?_
      refine g_goto (pc := 134) (tgt := 149) cx dX9_refuses_134 rfl ?_
      refine g_sub [] [] rfl ?_
      exact w_X9_refuses_149 cx en h0 hf
    · refine g_aload_n (pc := 137) cx dX9_refuses_137 rfl 0 rfl ?_
      refine g_aload_n (pc := 138) cx dX9_refuses_138 rfl 0 rfl ?_
      refine g_iload_n (pc := 139) cx dX9_refuses_139 rfl 2 rfl ?_
      refine g_iconst (pc := 140) (v := 0) cx dX9_refuses_140 (by decide) ?_
      obtain ⟨q24, M22, hc23, hf⟩ := obn_some2 hf
      refine g_callVi (pc := 141) [.int x2, .int 0] [.ref a0] cx lk_X9_119 vw_X9 (LTramWiresModel_o h0) (by decide) (c_X9_liveWith h0 hc23) dX9_refuses_141 (Nat.le_of_ble_eq_true rfl) ?_
      refine g_bipush (pc := 144) (v := 32) cx dX9_refuses_144 (by decide) ?_
      obtain ⟨q27, M25, hc26, hf⟩ := obn_some2 hf
      refine g_callVi (pc := 146) [.int q24, .int 32] [] cx lk_X9_138 vw_X9 (LTramWiresModel_o h0) (by decide) (c_X9_darkens h0 hc26) dX9_refuses_146 (Nat.le_of_ble_eq_true rfl) ?_
      refine g_sub [] [] rfl ?_
      exact w_X9_refuses_149 cx en h0 hf
  refine g_swk (pc := 1) (kx := 3) (off := 149) (tgt := 150) cx dX9_refuses_1 (by decide) (by decide) (by decide) (by decide) hf (fun hf => ?_) (fun n3 hf => ?_)
  · refine g_aload_n (pc := 150) cx dX9_refuses_150 rfl 0 rfl ?_
    refine g_iload_n (pc := 151) cx dX9_refuses_151 rfl 2 rfl ?_
    refine g_iconst (pc := 152) (v := 2) cx dX9_refuses_152 (by decide) ?_
    obtain ⟨q30, M28, hc29, hf⟩ := obn_some2 hf
    refine g_callVi (pc := 153) [.int x2, .int 2] [] cx lk_X9_33 vw_X9 (LTramWiresModel_o h0) (by decide) (c_X9_at h0 hc29) dX9_refuses_153 (Nat.le_of_ble_eq_true rfl) ?_
    refine g_iconst (pc := 156) (v := 1) cx dX9_refuses_156 (by decide) ?_
    refine g_icmp_ne (pc := 157) (tgt := 165) cx dX9_refuses_157 rfl hf (fun hf => ?_) (fun hf => ?_)
    · refine g_bipush (pc := 160) (v := 41) cx dX9_refuses_160 (by decide) ?_
      refine g_goto (pc := 162) (tgt := 177) cx dX9_refuses_162 rfl ?_
      refine g_sub [] [] rfl ?_
      exact w_X9_refuses_177 cx en h0 hf
    · refine g_aload_n (pc := 165) cx dX9_refuses_165 rfl 0 rfl ?_
      refine g_aload_n (pc := 166) cx dX9_refuses_166 rfl 0 rfl ?_
      refine g_iload_n (pc := 167) cx dX9_refuses_167 rfl 2 rfl ?_
      refine g_iconst (pc := 168) (v := 1) cx dX9_refuses_168 (by decide) ?_
      obtain ⟨q33, M31, hc32, hf⟩ := obn_some2 hf
      refine g_callVi (pc := 169) [.int x2, .int 1] [.ref a0] cx lk_X9_119 vw_X9 (LTramWiresModel_o h0) (by decide) (c_X9_liveWith h0 hc32) dX9_refuses_169 (Nat.le_of_ble_eq_true rfl) ?_
      refine g_bipush (pc := 172) (v := 42) cx dX9_refuses_172 (by decide) ?_
      obtain ⟨q36, M34, hc35, hf⟩ := obn_some2 hf
      refine g_callVi (pc := 174) [.int q33, .int 42] [] cx lk_X9_141 vw_X9 (LTramWiresModel_o h0) (by decide) (c_X9_lights h0 hc35) dX9_refuses_174 (Nat.le_of_ble_eq_true rfl) ?_
      refine g_sub [] [] rfl ?_
      exact w_X9_refuses_177 cx en h0 hf
  refine g_swk (pc := 1) (kx := 4) (off := 177) (tgt := 178) cx dX9_refuses_1 (by decide) (by decide) (by decide) (by decide) hf (fun hf => ?_) (fun n4 hf => ?_)
  · refine g_aload_n (pc := 178) cx dX9_refuses_178 rfl 0 rfl ?_
    refine g_iload_n (pc := 179) cx dX9_refuses_179 rfl 2 rfl ?_
    refine g_iconst (pc := 180) (v := 1) cx dX9_refuses_180 (by decide) ?_
    obtain ⟨q39, M37, hc38, hf⟩ := obn_some2 hf
    refine g_callVi (pc := 181) [.int x2, .int 1] [] cx lk_X9_37 vw_X9 (LTramWiresModel_o h0) (by decide) (c_X9_of h0 hc38) dX9_refuses_181 (Nat.le_of_ble_eq_true rfl) ?_
    refine g_iconst (pc := 184) (v := 2) cx dX9_refuses_184 (by decide) ?_
    refine g_icmp_eq (pc := 185) (tgt := 193) cx dX9_refuses_185 rfl hf (fun hf => ?_) (fun hf => ?_)
    · refine g_aload_n (pc := 193) cx dX9_refuses_193 rfl 0 rfl ?_
      refine g_aload_n (pc := 194) cx dX9_refuses_194 rfl 0 rfl ?_
      refine g_aload_n (pc := 195) cx dX9_refuses_195 rfl 0 rfl ?_
      obtain ⟨q42, M40, hc41, hf⟩ := obn_some2 hf
      refine g_callVi (pc := 196) [] [.ref a0, .ref a0] cx lk_X9_47 vw_X9 (LTramWiresModel_o h0) (by decide) (c_X9_onOnes h0 hc41) dX9_refuses_196 (Nat.le_of_ble_eq_true rfl) ?_
      refine g_iconst (pc := 199) (v := 1) cx dX9_refuses_199 (by decide) ?_
      refine g_iload_n (pc := 200) cx dX9_refuses_200 rfl 2 rfl ?_
      refine g_ishl (pc := 201) cx dX9_refuses_201 ?_
      refine g_iconst (pc := 202) (v := (-1)) cx dX9_refuses_202 (by decide) ?_
      refine g_ixor (pc := 203) cx dX9_refuses_203 ?_
      refine g_iand (pc := 204) cx dX9_refuses_204 ?_
      refine g_aload_n (pc := 205) cx dX9_refuses_205 rfl 0 rfl ?_
      obtain ⟨q45, M43, hc44, hf⟩ := obn_some2 hf
      refine g_callVi (pc := 206) [] [.int (q42 &&& ((1 <<< (x2 &&& 31)) ^^^ (-1))), .ref a0, .ref a0] cx lk_X9_51 vw_X9 (LTramWiresModel_o h0) (by decide) (c_X9_closedOnes h0 hc44) dX9_refuses_206 (Nat.le_of_ble_eq_true rfl) ?_
      obtain ⟨q48, M46, hc47, hf⟩ := obn_some2 hf
      refine g_callVi (pc := 209) [.int (q42 &&& ((1 <<< (x2 &&& 31)) ^^^ (-1))), .int q45] [.ref a0] cx lk_X9_54 vw_X9 (LTramWiresModel_o h0) (by decide) (c_X9_live h0 hc47) dX9_refuses_209 (Nat.le_of_ble_eq_true rfl) ?_
      refine g_bipush (pc := 212) (v := 52) cx dX9_refuses_212 (by decide) ?_
      obtain ⟨q51, M49, hc50, hf⟩ := obn_some2 hf
      refine g_callVi (pc := 214) [.int q48, .int 52] [] cx lk_X9_138 vw_X9 (LTramWiresModel_o h0) (by decide) (c_X9_darkens h0 hc50) dX9_refuses_214 (Nat.le_of_ble_eq_true rfl) ?_
      refine g_sub [] [] rfl ?_
      exact w_X9_refuses_217 cx en h0 hf
    · refine g_bipush (pc := 188) (v := 51) cx dX9_refuses_188 (by decide) ?_
      refine g_goto (pc := 190) (tgt := 217) cx dX9_refuses_190 rfl ?_
      refine g_sub [] [] rfl ?_
      exact w_X9_refuses_217 cx en h0 hf
  refine g_swk (pc := 1) (kx := 5) (off := 217) (tgt := 218) cx dX9_refuses_1 (by decide) (by decide) (by decide) (by decide) hf (fun hf => ?_) (fun n5 hf => ?_)
  · refine g_aload_n (pc := 218) cx dX9_refuses_218 rfl 0 rfl ?_
    refine g_iload_n (pc := 219) cx dX9_refuses_219 rfl 2 rfl ?_
    refine g_iconst (pc := 220) (v := 1) cx dX9_refuses_220 (by decide) ?_
    obtain ⟨q54, M52, hc53, hf⟩ := obn_some2 hf
    refine g_callVi (pc := 221) [.int x2, .int 1] [] cx lk_X9_37 vw_X9 (LTramWiresModel_o h0) (by decide) (c_X9_of h0 hc53) dX9_refuses_221 (Nat.le_of_ble_eq_true rfl) ?_
    refine g_iconst (pc := 224) (v := 1) cx dX9_refuses_224 (by decide) ?_
    refine g_icmp_eq (pc := 225) (tgt := 233) cx dX9_refuses_225 rfl hf (fun hf => ?_) (fun hf => ?_)
    · refine g_aload_n (pc := 233) cx dX9_refuses_233 rfl 0 rfl ?_
      refine g_aload_n (pc := 234) cx dX9_refuses_234 rfl 0 rfl ?_
      refine g_aload_n (pc := 235) cx dX9_refuses_235 rfl 0 rfl ?_
      obtain ⟨q57, M55, hc56, hf⟩ := obn_some2 hf
      refine g_callVi (pc := 236) [] [.ref a0, .ref a0] cx lk_X9_47 vw_X9 (LTramWiresModel_o h0) (by decide) (c_X9_onOnes h0 hc56) dX9_refuses_236 (Nat.le_of_ble_eq_true rfl) ?_
      refine g_iconst (pc := 239) (v := 1) cx dX9_refuses_239 (by decide) ?_
      refine g_iload_n (pc := 240) cx dX9_refuses_240 rfl 2 rfl ?_
      refine g_ishl (pc := 241) cx dX9_refuses_241 ?_
      refine g_ior (pc := 242) cx dX9_refuses_242 ?_
      refine g_aload_n (pc := 243) cx dX9_refuses_243 rfl 0 rfl ?_
      obtain ⟨q60, M58, hc59, hf⟩ := obn_some2 hf
      refine g_callVi (pc := 244) [] [.int (q57 ||| (1 <<< (x2 &&& 31))), .ref a0, .ref a0] cx lk_X9_51 vw_X9 (LTramWiresModel_o h0) (by decide) (c_X9_closedOnes h0 hc59) dX9_refuses_244 (Nat.le_of_ble_eq_true rfl) ?_
      obtain ⟨q63, M61, hc62, hf⟩ := obn_some2 hf
      refine g_callVi (pc := 247) [.int (q57 ||| (1 <<< (x2 &&& 31))), .int q60] [.ref a0] cx lk_X9_54 vw_X9 (LTramWiresModel_o h0) (by decide) (c_X9_live h0 hc62) dX9_refuses_247 (Nat.le_of_ble_eq_true rfl) ?_
      refine g_bipush (pc := 250) (v := 62) cx dX9_refuses_250 (by decide) ?_
      obtain ⟨q66, M64, hc65, hf⟩ := obn_some2 hf
      refine g_callVi (pc := 252) [.int q63, .int 62] [] cx lk_X9_141 vw_X9 (LTramWiresModel_o h0) (by decide) (c_X9_lights h0 hc65) dX9_refuses_252 (Nat.le_of_ble_eq_true rfl) ?_
      refine g_sub [] [] rfl ?_
      exact w_X9_refuses_255 cx en h0 hf
    · refine g_bipush (pc := 228) (v := 61) cx dX9_refuses_228 (by decide) ?_
      refine g_goto (pc := 230) (tgt := 255) cx dX9_refuses_230 rfl ?_
      refine g_sub [] [] rfl ?_
      exact w_X9_refuses_255 cx en h0 hf
  refine g_swk (pc := 1) (kx := 6) (off := 255) (tgt := 256) cx dX9_refuses_1 (by decide) (by decide) (by decide) (by decide) hf (fun hf => ?_) (fun n6 hf => ?_)
  · refine g_aload_n (pc := 256) cx dX9_refuses_256 rfl 0 rfl ?_
    refine g_iload_n (pc := 257) cx dX9_refuses_257 rfl 2 rfl ?_
    refine g_iconst (pc := 258) (v := 3) cx dX9_refuses_258 (by decide) ?_
    obtain ⟨q69, M67, hc68, hf⟩ := obn_some2 hf
    refine g_callVi (pc := 259) [.int x2, .int 3] [] cx lk_X9_37 vw_X9 (LTramWiresModel_o h0) (by decide) (c_X9_of h0 hc68) dX9_refuses_259 (Nat.le_of_ble_eq_true rfl) ?_
    refine g_iconst (pc := 262) (v := 1) cx dX9_refuses_262 (by decide) ?_
    refine g_icmp_ne (pc := 263) (tgt := 271) cx dX9_refuses_263 rfl hf (fun hf => ?_) (fun hf => ?_)
    · refine g_bipush (pc := 266) (v := 71) cx dX9_refuses_266 (by decide) ?_
      refine g_goto (pc := 268) (tgt := 299) cx dX9_refuses_268 rfl ?_
      refine g_sub [] [] rfl ?_
      exact w_X9_refuses_299 cx en h0 hf
    · refine g_aload_n (pc := 271) cx dX9_refuses_271 rfl 0 rfl ?_
      refine g_iload_n (pc := 272) cx dX9_refuses_272 rfl 2 rfl ?_
      obtain ⟨q72, M70, hc71, hf⟩ := obn_some2 hf
      refine g_callVi (pc := 273) [.int x2] [] cx lk_X9_104 vw_X9 (LTramWiresModel_o h0) (by decide) (c_X9_isLive h0 hc71) dX9_refuses_273 (Nat.le_of_ble_eq_true rfl) ?_
      refine g_if_eq (pc := 276) (tgt := 284) cx dX9_refuses_276 rfl hf (fun hf => ?_) (fun hf => ?_)
      · refine g_aload_n (pc := 284) cx dX9_refuses_284 rfl 0 rfl ?_
        refine g_iload_n (pc := 285) cx dX9_refuses_285 rfl 2 rfl ?_
        refine g_iconst (pc := 286) (v := 2) cx dX9_refuses_286 (by decide) ?_
        obtain ⟨q75, M73, hc74, hf⟩ := obn_some2 hf
        refine g_callVi (pc := 287) [.int x2, .int 2] [] cx lk_X9_37 vw_X9 (LTramWiresModel_o h0) (by decide) (c_X9_of h0 hc74) dX9_refuses_287 (Nat.le_of_ble_eq_true rfl) ?_
        refine g_if_ne (pc := 290) (tgt := 298) cx dX9_refuses_290 rfl hf (fun hf => ?_) (fun hf => ?_)
        · refine g_bipush (pc := 293) (v := 73) cx dX9_refuses_293 (by decide) ?_
          refine g_goto (pc := 295) (tgt := 299) cx dX9_refuses_295 rfl ?_
          refine g_sub [] [] rfl ?_
          exact w_X9_refuses_299 cx en h0 hf
        · refine g_iconst (pc := 298) (v := 0) cx dX9_refuses_298 (by decide) ?_
          refine g_sub [] [] rfl ?_
          exact w_X9_refuses_299 cx en h0 hf
      · refine g_bipush (pc := 279) (v := 72) cx dX9_refuses_279 (by decide) ?_
        refine g_goto (pc := 281) (tgt := 299) cx dX9_refuses_281 rfl ?_
        refine g_sub [] [] rfl ?_
        exact w_X9_refuses_299 cx en h0 hf
  refine g_swo (pc := 1) (tgt := 300) cx dX9_refuses_1 ?_ (by decide) ?_
  · have q0 := lv_neT n0 (a := 0) (by decide)
    have q1 := lv_neT n1 (a := 1) (by decide)
    have q2 := lv_neT n2 (a := 2) (by decide)
    have q3 := lv_neT n3 (a := 3) (by decide)
    have q4 := lv_neT n4 (a := 4) (by decide)
    have q5 := lv_neT n5 (a := 5) (by decide)
    have q6 := lv_neT n6 (a := 6) (by decide)
    omega
  · refine g_aload_n (pc := 300) cx dX9_refuses_300 rfl 0 rfl ?_
    refine g_iload_n (pc := 301) cx dX9_refuses_301 rfl 2 rfl ?_
    refine g_iconst (pc := 302) (v := 3) cx dX9_refuses_302 (by decide) ?_
    obtain ⟨q78, M76, hc77, hf⟩ := obn_some2 hf
    refine g_callVi (pc := 303) [.int x2, .int 3] [] cx lk_X9_37 vw_X9 (LTramWiresModel_o h0) (by decide) (c_X9_of h0 hc77) dX9_refuses_303 (Nat.le_of_ble_eq_true rfl) ?_
    refine g_if_ne (pc := 306) (tgt := 314) cx dX9_refuses_306 rfl hf (fun hf => ?_) (fun hf => ?_)
    · refine g_bipush (pc := 309) (v := 81) cx dX9_refuses_309 (by decide) ?_
      refine g_goto (pc := 311) (tgt := 330) cx dX9_refuses_311 rfl ?_
      refine g_sub [] [] rfl ?_
      exact w_X9_refuses_330 cx en h0 hf
    · refine g_aload_n (pc := 314) cx dX9_refuses_314 rfl 0 rfl ?_
      refine g_iload_n (pc := 315) cx dX9_refuses_315 rfl 2 rfl ?_
      refine g_iconst (pc := 316) (v := 4) cx dX9_refuses_316 (by decide) ?_
      obtain ⟨q81, M79, hc80, hf⟩ := obn_some2 hf
      refine g_callVi (pc := 317) [.int x2, .int 4] [] cx lk_X9_37 vw_X9 (LTramWiresModel_o h0) (by decide) (c_X9_of h0 hc80) dX9_refuses_317 (Nat.le_of_ble_eq_true rfl) ?_
      refine g_iconst (pc := 320) (v := 1) cx dX9_refuses_320 (by decide) ?_
      refine g_icmp_ne (pc := 321) (tgt := 329) cx dX9_refuses_321 rfl hf (fun hf => ?_) (fun hf => ?_)
      · refine g_bipush (pc := 324) (v := 82) cx dX9_refuses_324 (by decide) ?_
        refine g_goto (pc := 326) (tgt := 330) cx dX9_refuses_326 rfl ?_
        refine g_sub [] [] rfl ?_
        exact w_X9_refuses_330 cx en h0 hf
      · refine g_iconst (pc := 329) (v := 0) cx dX9_refuses_329 (by decide) ?_
        refine g_sub [] [] rfl ?_
        exact w_X9_refuses_330 cx en h0 hf
/-! X9_refusal -/
def b_X9_refusal_29 (a0 : Nat) (M : Mm) (s0 : Int32) : OR := some (s0, M)
def b_X9_refusal_28 (a0 : Nat) (M : Mm) : OR := b_X9_refusal_29 a0 M (-1)
def f_X9_refusal (a0 : Nat) (M : Mm) (x1 x2 : Int32) : OR := obn (f_X9_in M x1 0 7) fun q3 M1 => (if q3 = 0 then b_X9_refusal_28 a0 M1 else obn (f_X9_isPlace a0 M1 x1 x2) fun q6 M4 => (if q6 = 0 then b_X9_refusal_28 a0 M4 else obn (f_X9_refuses a0 M4 x1 x2) fun q9 M7 => (b_X9_refusal_29 a0 M7 q9)))
set_option maxHeartbeats 4000000 in
set_option maxRecDepth 100000 in
theorem w_X9_refusal_29 {l : Launch} {w : Wp} {L : Ly} {E : Cx} {a0 : Nat} {s0 : Int32} {R0 : Int32 × Mm} (cx : Ok w L E RX9 cX9_refusal 3 6) (en : En w L E (some .int) R0) (h0 : LTramWiresModel w L (a0)) {M : Mm} (hf : b_X9_refusal_29 a0 M s0 = some R0) : G l w L E M [] 29 [.int s0] := by
  unfold b_X9_refusal_29 at hf
  exact g_iret (pc := 29) cx en dX9_refusal_29 rfl hf
set_option maxHeartbeats 4000000 in
set_option maxRecDepth 100000 in
theorem w_X9_refusal_28 {l : Launch} {w : Wp} {L : Ly} {E : Cx} {a0 : Nat} {R0 : Int32 × Mm} (cx : Ok w L E RX9 cX9_refusal 3 6) (en : En w L E (some .int) R0) (h0 : LTramWiresModel w L (a0)) {M : Mm} (hf : b_X9_refusal_28 a0 M = some R0) : G l w L E M [] 28 [] := by
  unfold b_X9_refusal_28 at hf
  refine g_iconst (pc := 28) (v := (-1)) cx dX9_refusal_28 (by decide) ?_
  exact w_X9_refusal_29 cx en h0 hf
set_option maxHeartbeats 4000000 in
set_option maxRecDepth 100000 in
theorem c_X9_refusal {l : Launch} {w : Wp} {L : Ly} {a0 : Nat} {M : Mm} {x1 x2 : Int32} {R0 : Int32 × Mm} (h0 : LTramWiresModel w L (a0)) (hf : f_X9_refusal a0 M x1 x2 = some R0) : CT l w L yX9_refusal cX9_refusal 3 (some .int) 6 [.ref a0, .int x1, .int x2] M R0 := by
  unfold f_X9_refusal at hf
  refine CT_of pn_X9 (Nat.le_of_ble_eq_true rfl) (fun E cx en => ?_)
  have cx : Ok w L E RX9 cX9_refusal 3 6 := cx
  show G l w L E M [(0, .ref a0), (1, .int x1), (2, .int x2)] 0 []
  refine g_iload_n (pc := 0) cx dX9_refusal_0 rfl 1 rfl ?_
  refine g_iconst (pc := 1) (v := 0) cx dX9_refusal_1 (by decide) ?_
  refine g_bipush (pc := 2) (v := 7) cx dX9_refusal_2 (by decide) ?_
  obtain ⟨q3, M1, hc2, hf⟩ := obn_some2 hf
  refine g_callSi (pc := 4) [.int x1, .int 0, .int 7] [] cx lk_X9_25 (by decide) (c_X9_in hc2) dX9_refusal_4 (Nat.le_of_ble_eq_true rfl) ?_
  refine g_if_eq (pc := 7) (tgt := 28) cx dX9_refusal_7 rfl hf (fun hf => ?_) (fun hf => ?_)
  · refine g_sub [] [] rfl ?_
    exact w_X9_refusal_28 cx en h0 hf
  · refine g_aload_n (pc := 10) cx dX9_refusal_10 rfl 0 rfl ?_
    refine g_iload_n (pc := 11) cx dX9_refusal_11 rfl 1 rfl ?_
    refine g_iload_n (pc := 12) cx dX9_refusal_12 rfl 2 rfl ?_
    obtain ⟨q6, M4, hc5, hf⟩ := obn_some2 hf
    refine g_callVi (pc := 13) [.int x1, .int x2] [] cx lk_X9_144 vw_X9 (LTramWiresModel_o h0) (by decide) (c_X9_isPlace h0 hc5) dX9_refusal_13 (Nat.le_of_ble_eq_true rfl) ?_
    refine g_if_eq (pc := 16) (tgt := 28) cx dX9_refusal_16 rfl hf (fun hf => ?_) (fun hf => ?_)
    · refine g_sub [] [] rfl ?_
      exact w_X9_refusal_28 cx en h0 hf
    · refine g_aload_n (pc := 19) cx dX9_refusal_19 rfl 0 rfl ?_
      refine g_iload_n (pc := 20) cx dX9_refusal_20 rfl 1 rfl ?_
      refine g_iload_n (pc := 21) cx dX9_refusal_21 rfl 2 rfl ?_
      obtain ⟨q9, M7, hc8, hf⟩ := obn_some2 hf
      refine g_callVi (pc := 22) [.int x1, .int x2] [] cx lk_X9_147 vw_X9 (LTramWiresModel_o h0) (by decide) (c_X9_refuses h0 hc8) dX9_refusal_22 (Nat.le_of_ble_eq_true rfl) ?_
      refine g_goto (pc := 25) (tgt := 29) cx dX9_refusal_25 rfl ?_
      refine g_sub [] [] rfl ?_
      exact w_X9_refusal_29 cx en h0 hf
/-! X9_forgets -/
def l_X9_forgets_84 (a0 : Nat) : Nat → Mm → Int32 → OR
  | 0, _, _ => none
  | k + 1, M, x3 => ckd 5 233 (if x3 < (161 + (3 * (M (a0 + 1) (ix 5)))) then ckd (x3 + 3) 233 (ckd x3 233 (bnd (mst M (a0 + 1) (ix x3) (M (a0 + 1) (ix (x3 + 3)))) fun M1 => l_X9_forgets_84 a0 k M1 (x3 + 1))) else some (0, M))
def b_X9_forgets_70 (a0 : Nat) (M : Mm) : OR := ckd 5 233 (ckd 5 233 (bnd (mst M (a0 + 1) (ix 5) ((M (a0 + 1) (ix 5)) - 1)) fun M1 => l_X9_forgets_84 a0 FU M1 161))
def b_X9_forgets_37 (a0 : Nat) (M : Mm) (s1 s2 s3 : Int32) : OR := obn (f_X9_lay a0 M s1 s2 s3) fun _ M1 => (b_X9_forgets_70 a0 M1)
def b_X9_forgets_24 (a0 : Nat) (M : Mm) (x1 x2 : Int32) : OR := if x1 = 3 then b_X9_forgets_37 a0 M x2 3 1 else b_X9_forgets_37 a0 M x2 3 0
def b_X9_forgets_67 (a0 : Nat) (M : Mm) (s1 s2 s3 : Int32) : OR := obn (f_X9_put a0 M s1 s2 s3) fun _ M1 => (b_X9_forgets_70 a0 M1)
def b_X9_forgets_53 (a0 : Nat) (M : Mm) (x1 x2 : Int32) : OR := if x1 = 5 then b_X9_forgets_67 a0 M x2 8 1 else b_X9_forgets_67 a0 M x2 8 0
def f_X9_forgets (a0 : Nat) (M : Mm) : OR := obn (f_X9_logged a0 M 0 0) fun q3 M1 => (obn (f_X9_logged a0 M1 0 1) fun q6 M4 => (if q3 = 2 then b_X9_forgets_24 a0 M4 q3 q6 else if q3 = 3 then b_X9_forgets_24 a0 M4 q3 q6 else if q3 = 4 then b_X9_forgets_53 a0 M4 q3 q6 else if q3 = 5 then b_X9_forgets_53 a0 M4 q3 q6 else b_X9_forgets_70 a0 M4))
set_option maxHeartbeats 4000000 in
set_option maxRecDepth 100000 in
theorem w_X9_forgets_84 {l : Launch} {w : Wp} {L : Ly} {E : Cx} {a0 : Nat} {R0 : Int32 × Mm} (cx : Ok w L E RX9 cX9_forgets 4 1) (en : En w L E none R0) (h0 : LTramWiresModel w L (a0)) : ∀ (k : Nat) {M : Mm} {x3 : Int32}, l_X9_forgets_84 a0 k M x3 = some R0 → G l w L E M [(0, .ref a0), (3, .int x3)] 84 [] := by
  intro k
  induction k with
  | zero =>
    intro M x3 hf
    exact absurd hf (by simp [l_X9_forgets_84])
  | succ k ih =>
    intro M x3 hf
    unfold l_X9_forgets_84 at hf
    refine g_iload_n (pc := 84) cx dX9_forgets_84 rfl 1 rfl ?_
    refine g_sipush (pc := 85) (v := 161) cx dX9_forgets_85 (by decide) ?_
    refine g_iconst (pc := 88) (v := 3) cx dX9_forgets_88 (by decide) ?_
    refine g_aload_n (pc := 89) cx dX9_forgets_89 rfl 0 rfl ?_
    refine fg_X9_7 (pc := 90) cx dX9_forgets_90 h0 ?_
    refine g_iconst (pc := 93) (v := 5) cx dX9_forgets_93 (by decide) ?_
    refine g_iald (pc := 94) cx (LTramWiresModel_st h0) dX9_forgets_94 hf (fun hf => ?_)
    refine g_imul (pc := 95) cx dX9_forgets_95 ?_
    refine g_iadd (pc := 96) cx dX9_forgets_96 ?_
    refine g_icmp_ge (pc := 97) (tgt := 120) cx dX9_forgets_97 rfl hf (fun hf => ?_) (fun hf => ?_)
    · refine g_aload_n (pc := 100) cx dX9_forgets_100 rfl 0 rfl ?_
      refine fg_X9_7 (pc := 101) cx dX9_forgets_101 h0 ?_
      refine g_iload_n (pc := 104) cx dX9_forgets_104 rfl 1 rfl ?_
      refine g_aload_n (pc := 105) cx dX9_forgets_105 rfl 0 rfl ?_
      refine fg_X9_7 (pc := 106) cx dX9_forgets_106 h0 ?_
      refine g_iload_n (pc := 109) cx dX9_forgets_109 rfl 1 rfl ?_
      refine g_iconst (pc := 110) (v := 3) cx dX9_forgets_110 (by decide) ?_
      refine g_iadd (pc := 111) cx dX9_forgets_111 ?_
      refine g_iald (pc := 112) cx (LTramWiresModel_st h0) dX9_forgets_112 hf (fun hf => ?_)
      refine g_iast (pc := 113) cx (LTramWiresModel_st h0) dX9_forgets_113 hf (fun M1 hf => ?_)
      refine g_iinc (pc := 114) cx [(3, .int (x3 + 1)), (0, .ref a0)] dX9_forgets_114 1 rfl rfl (by decide) rfl ?_
      refine g_goto (pc := 117) (tgt := 84) cx dX9_forgets_117 rfl ?_
      refine g_sub [1, 0] [(0, .ref a0), (3, .int (x3 + 1))] rfl ?_
      exact ih hf
    · exact g_vret (pc := 120) cx en dX9_forgets_120 hf
set_option maxHeartbeats 4000000 in
set_option maxRecDepth 100000 in
theorem w_X9_forgets_70 {l : Launch} {w : Wp} {L : Ly} {E : Cx} {a0 : Nat} {R0 : Int32 × Mm} (cx : Ok w L E RX9 cX9_forgets 4 1) (en : En w L E none R0) (h0 : LTramWiresModel w L (a0)) {M : Mm} (hf : b_X9_forgets_70 a0 M = some R0) : G l w L E M [(0, .ref a0)] 70 [] := by
  unfold b_X9_forgets_70 at hf
  refine g_aload_n (pc := 70) cx dX9_forgets_70 rfl 0 rfl ?_
  refine fg_X9_7 (pc := 71) cx dX9_forgets_71 h0 ?_
  refine g_iconst (pc := 74) (v := 5) cx dX9_forgets_74 (by decide) ?_
  refine g_dup2 (pc := 75) cx dX9_forgets_75 rfl rfl ?_
  refine g_iald (pc := 76) cx (LTramWiresModel_st h0) dX9_forgets_76 hf (fun hf => ?_)
  refine g_iconst (pc := 77) (v := 1) cx dX9_forgets_77 (by decide) ?_
  refine g_isub (pc := 78) cx dX9_forgets_78 ?_
  refine g_iast (pc := 79) cx (LTramWiresModel_st h0) dX9_forgets_79 hf (fun M1 hf => ?_)
  refine g_sipush (pc := 80) (v := 161) cx dX9_forgets_80 (by decide) ?_
  refine g_istore_n (pc := 83) cx [(3, .int 161), (0, .ref a0)] dX9_forgets_83 rfl (by decide) rfl ?_
  refine g_sub [1, 0] [(0, .ref a0), (3, .int 161)] rfl ?_
  exact w_X9_forgets_84 cx en h0 FU hf
set_option maxHeartbeats 4000000 in
set_option maxRecDepth 100000 in
theorem w_X9_forgets_37 {l : Launch} {w : Wp} {L : Ly} {E : Cx} {a0 : Nat} {s1 s2 s3 : Int32} {R0 : Int32 × Mm} (cx : Ok w L E RX9 cX9_forgets 4 1) (en : En w L E none R0) (h0 : LTramWiresModel w L (a0)) {M : Mm} (hf : b_X9_forgets_37 a0 M s1 s2 s3 = some R0) : G l w L E M [(0, .ref a0)] 37 [.int s3, .int s2, .int s1, .ref a0] := by
  unfold b_X9_forgets_37 at hf
  obtain ⟨q3, M1, hc2, hf⟩ := obn_some2 hf
  refine g_callVv (pc := 37) [.int s1, .int s2, .int s3] [] cx lk_X9_80 vw_X9 (LTramWiresModel_o h0) (by decide) (c_X9_lay h0 hc2) dX9_forgets_37 (Nat.le_of_ble_eq_true rfl) ?_
  refine g_goto (pc := 40) (tgt := 70) cx dX9_forgets_40 rfl ?_
  exact w_X9_forgets_70 cx en h0 hf
set_option maxHeartbeats 4000000 in
set_option maxRecDepth 100000 in
theorem w_X9_forgets_24 {l : Launch} {w : Wp} {L : Ly} {E : Cx} {a0 : Nat} {x1 x2 : Int32} {R0 : Int32 × Mm} (cx : Ok w L E RX9 cX9_forgets 4 1) (en : En w L E none R0) (h0 : LTramWiresModel w L (a0)) {M : Mm} (hf : b_X9_forgets_24 a0 M x1 x2 = some R0) : G l w L E M [(0, .ref a0), (1, .int x1), (2, .int x2)] 24 [] := by
  unfold b_X9_forgets_24 at hf
  refine g_aload_n (pc := 24) cx dX9_forgets_24 rfl 0 rfl ?_
  refine g_iload_n (pc := 25) cx dX9_forgets_25 rfl 2 rfl ?_
  refine g_iconst (pc := 26) (v := 3) cx dX9_forgets_26 (by decide) ?_
  refine g_iload_n (pc := 27) cx dX9_forgets_27 rfl 1 rfl ?_
  refine g_iconst (pc := 28) (v := 3) cx dX9_forgets_28 (by decide) ?_
  refine g_icmp_ne (pc := 29) (tgt := 36) cx dX9_forgets_29 rfl hf (fun hf => ?_) (fun hf => ?_)
  · refine g_iconst (pc := 32) (v := 1) cx dX9_forgets_32 (by decide) ?_
    refine g_goto (pc := 33) (tgt := 37) cx dX9_forgets_33 rfl ?_
    refine g_sub [0] [(0, .ref a0)] rfl ?_
    exact w_X9_forgets_37 cx en h0 hf
  · refine g_iconst (pc := 36) (v := 0) cx dX9_forgets_36 (by decide) ?_
    refine g_sub [0] [(0, .ref a0)] rfl ?_
    exact w_X9_forgets_37 cx en h0 hf
set_option maxHeartbeats 4000000 in
set_option maxRecDepth 100000 in
theorem w_X9_forgets_67 {l : Launch} {w : Wp} {L : Ly} {E : Cx} {a0 : Nat} {s1 s2 s3 : Int32} {R0 : Int32 × Mm} (cx : Ok w L E RX9 cX9_forgets 4 1) (en : En w L E none R0) (h0 : LTramWiresModel w L (a0)) {M : Mm} (hf : b_X9_forgets_67 a0 M s1 s2 s3 = some R0) : G l w L E M [(0, .ref a0)] 67 [.int s3, .int s2, .int s1, .ref a0] := by
  unfold b_X9_forgets_67 at hf
  obtain ⟨q3, M1, hc2, hf⟩ := obn_some2 hf
  refine g_callVv (pc := 67) [.int s1, .int s2, .int s3] [] cx lk_X9_76 vw_X9 (LTramWiresModel_o h0) (by decide) (c_X9_put h0 hc2) dX9_forgets_67 (Nat.le_of_ble_eq_true rfl) ?_
  exact w_X9_forgets_70 cx en h0 hf
set_option maxHeartbeats 4000000 in
set_option maxRecDepth 100000 in
theorem w_X9_forgets_53 {l : Launch} {w : Wp} {L : Ly} {E : Cx} {a0 : Nat} {x1 x2 : Int32} {R0 : Int32 × Mm} (cx : Ok w L E RX9 cX9_forgets 4 1) (en : En w L E none R0) (h0 : LTramWiresModel w L (a0)) {M : Mm} (hf : b_X9_forgets_53 a0 M x1 x2 = some R0) : G l w L E M [(0, .ref a0), (1, .int x1), (2, .int x2)] 53 [] := by
  unfold b_X9_forgets_53 at hf
  refine g_aload_n (pc := 53) cx dX9_forgets_53 rfl 0 rfl ?_
  refine g_iload_n (pc := 54) cx dX9_forgets_54 rfl 2 rfl ?_
  refine g_bipush (pc := 55) (v := 8) cx dX9_forgets_55 (by decide) ?_
  refine g_iload_n (pc := 57) cx dX9_forgets_57 rfl 1 rfl ?_
  refine g_iconst (pc := 58) (v := 5) cx dX9_forgets_58 (by decide) ?_
  refine g_icmp_ne (pc := 59) (tgt := 66) cx dX9_forgets_59 rfl hf (fun hf => ?_) (fun hf => ?_)
  · refine g_iconst (pc := 62) (v := 1) cx dX9_forgets_62 (by decide) ?_
    refine g_goto (pc := 63) (tgt := 67) cx dX9_forgets_63 rfl ?_
    refine g_sub [0] [(0, .ref a0)] rfl ?_
    exact w_X9_forgets_67 cx en h0 hf
  · refine g_iconst (pc := 66) (v := 0) cx dX9_forgets_66 (by decide) ?_
    refine g_sub [0] [(0, .ref a0)] rfl ?_
    exact w_X9_forgets_67 cx en h0 hf
set_option maxHeartbeats 4000000 in
set_option maxRecDepth 100000 in
theorem c_X9_forgets {l : Launch} {w : Wp} {L : Ly} {a0 : Nat} {M : Mm} {R0 : Int32 × Mm} (h0 : LTramWiresModel w L (a0)) (hf : f_X9_forgets a0 M = some R0) : CT l w L yX9_forgets cX9_forgets 4 none 1 [.ref a0] M R0 := by
  unfold f_X9_forgets at hf
  refine CT_of pn_X9 (Nat.le_of_ble_eq_true rfl) (fun E cx en => ?_)
  have cx : Ok w L E RX9 cX9_forgets 4 1 := cx
  show G l w L E M [(0, .ref a0)] 0 []
  refine g_aload_n (pc := 0) cx dX9_forgets_0 rfl 0 rfl ?_
  refine g_iconst (pc := 1) (v := 0) cx dX9_forgets_1 (by decide) ?_
  refine g_iconst (pc := 2) (v := 0) cx dX9_forgets_2 (by decide) ?_
  obtain ⟨q3, M1, hc2, hf⟩ := obn_some2 hf
  refine g_callVi (pc := 3) [.int 0, .int 0] [] cx lk_X9_60 vw_X9 (LTramWiresModel_o h0) (by decide) (c_X9_logged h0 hc2) dX9_forgets_3 (Nat.le_of_ble_eq_true rfl) ?_
  refine g_istore_n (pc := 6) cx [(1, .int q3), (0, .ref a0)] dX9_forgets_6 rfl (by decide) rfl ?_
  refine g_aload_n (pc := 7) cx dX9_forgets_7 rfl 1 rfl ?_
  refine g_iconst (pc := 8) (v := 0) cx dX9_forgets_8 (by decide) ?_
  refine g_iconst (pc := 9) (v := 1) cx dX9_forgets_9 (by decide) ?_
  obtain ⟨q6, M4, hc5, hf⟩ := obn_some2 hf
  refine g_callVi (pc := 10) [.int 0, .int 1] [] cx lk_X9_60 vw_X9 (LTramWiresModel_o h0) (by decide) (c_X9_logged h0 hc5) dX9_forgets_10 (Nat.le_of_ble_eq_true rfl) ?_
  refine g_istore_n (pc := 13) cx [(2, .int q6), (1, .int q3), (0, .ref a0)] dX9_forgets_13 rfl (by decide) rfl ?_
  refine g_iload_n (pc := 14) cx dX9_forgets_14 rfl 1 rfl ?_
  refine g_iconst (pc := 15) (v := 2) cx dX9_forgets_15 (by decide) ?_
  refine g_icmp_eq (pc := 16) (tgt := 24) cx dX9_forgets_16 rfl hf (fun hf => ?_) (fun hf => ?_)
  · refine g_sub [2, 1, 0] [(0, .ref a0), (1, .int q3), (2, .int q6)] rfl ?_
    exact w_X9_forgets_24 cx en h0 hf
  · refine g_iload_n (pc := 19) cx dX9_forgets_19 rfl 1 rfl ?_
    refine g_iconst (pc := 20) (v := 3) cx dX9_forgets_20 (by decide) ?_
    refine g_icmp_ne (pc := 21) (tgt := 43) cx dX9_forgets_21 rfl hf (fun hf => ?_) (fun hf => ?_)
    · refine g_sub [2, 1, 0] [(0, .ref a0), (1, .int q3), (2, .int q6)] rfl ?_
      exact w_X9_forgets_24 cx en h0 hf
    · refine g_iload_n (pc := 43) cx dX9_forgets_43 rfl 1 rfl ?_
      refine g_iconst (pc := 44) (v := 4) cx dX9_forgets_44 (by decide) ?_
      refine g_icmp_eq (pc := 45) (tgt := 53) cx dX9_forgets_45 rfl hf (fun hf => ?_) (fun hf => ?_)
      · refine g_sub [2, 1, 0] [(0, .ref a0), (1, .int q3), (2, .int q6)] rfl ?_
        exact w_X9_forgets_53 cx en h0 hf
      · refine g_iload_n (pc := 48) cx dX9_forgets_48 rfl 1 rfl ?_
        refine g_iconst (pc := 49) (v := 5) cx dX9_forgets_49 (by decide) ?_
        refine g_icmp_ne (pc := 50) (tgt := 70) cx dX9_forgets_50 rfl hf (fun hf => ?_) (fun hf => ?_)
        · refine g_sub [2, 1, 0] [(0, .ref a0), (1, .int q3), (2, .int q6)] rfl ?_
          exact w_X9_forgets_53 cx en h0 hf
        · refine g_sub [2] [(0, .ref a0)] rfl ?_
          exact w_X9_forgets_70 cx en h0 hf
/-! X9_makes -/
def b_X9_makes_117 (a0 : Nat) (M : Mm) (x1 x2 : Int32) : OR := ckd 5 233 (bnd (161 + (3 * (M (a0 + 1) (ix 5)))) fun v1 => ckd v1 233 (bnd (mst M (a0 + 1) (ix v1) x1) fun M2 => ckd (v1 + 1) 233 (bnd (mst M2 (a0 + 1) (ix (v1 + 1)) x2) fun M3 => ckd 3 233 (ckd (v1 + 2) 233 (bnd (mst M3 (a0 + 1) (ix (v1 + 2)) (M3 (a0 + 1) (ix 3))) fun M4 => ckd 5 233 (ckd 5 233 (bnd (mst M4 (a0 + 1) (ix 5) ((M4 (a0 + 1) (ix 5)) + 1)) fun M5 => ckd 4 233 (ckd 4 233 (bnd (mst M5 (a0 + 1) (ix 4) ((M5 (a0 + 1) (ix 4)) + 1)) fun M6 => some (0, M6))))))))))
def b_X9_makes_102 (a0 : Nat) (M : Mm) (x1 x2 : Int32) : OR := ckd 5 233 (if (M (a0 + 1) (ix 5)) = 24 then obn (f_X9_forgets a0 M) fun _ M1 => (b_X9_makes_117 a0 M1 x1 x2) else b_X9_makes_117 a0 M x1 x2)
def b_X9_makes_23 (a0 : Nat) (M : Mm) (x1 x2 s1 s2 s3 : Int32) : OR := obn (f_X9_lay a0 M s1 s2 s3) fun _ M1 => (b_X9_makes_102 a0 M1 x1 x2)
def b_X9_makes_10 (a0 : Nat) (M : Mm) (x1 x2 : Int32) : OR := if x1 = 3 then b_X9_makes_23 a0 M x1 x2 x2 2 1 else b_X9_makes_23 a0 M x1 x2 x2 2 0
def b_X9_makes_52 (a0 : Nat) (M : Mm) (x1 x2 s1 s2 s3 : Int32) : OR := obn (f_X9_put a0 M s1 s2 s3) fun _ M1 => (b_X9_makes_102 a0 M1 x1 x2)
def b_X9_makes_39 (a0 : Nat) (M : Mm) (x1 x2 : Int32) : OR := if x1 = 5 then b_X9_makes_52 a0 M x1 x2 x2 1 2 else b_X9_makes_52 a0 M x1 x2 x2 1 1
def b_X9_makes_79 (a0 : Nat) (M : Mm) (x1 x2 s1 s2 s3 : Int32) : OR := obn (f_X9_put a0 M s1 s2 s3) fun _ M1 => (b_X9_makes_102 a0 M1 x1 x2)
def b_X9_makes_67 (a0 : Nat) (M : Mm) (x1 x2 : Int32) : OR := if x1 = 0 then b_X9_makes_79 a0 M x1 x2 x2 2 1 else b_X9_makes_79 a0 M x1 x2 x2 2 0
def b_X9_makes_99 (a0 : Nat) (M : Mm) (x1 x2 s1 s2 s3 : Int32) : OR := obn (f_X9_put a0 M s1 s2 s3) fun _ M1 => (b_X9_makes_102 a0 M1 x1 x2)
def f_X9_makes (a0 : Nat) (M : Mm) (x1 x2 : Int32) : OR := if x1 = 2 then b_X9_makes_10 a0 M x1 x2 else if x1 = 3 then b_X9_makes_10 a0 M x1 x2 else if x1 = 4 then b_X9_makes_39 a0 M x1 x2 else if x1 = 5 then b_X9_makes_39 a0 M x1 x2 else if x1 = 0 then b_X9_makes_67 a0 M x1 x2 else if x1 = 1 then b_X9_makes_67 a0 M x1 x2 else if x1 = 6 then b_X9_makes_99 a0 M x1 x2 x2 3 1 else b_X9_makes_99 a0 M x1 x2 x2 3 0
set_option maxHeartbeats 4000000 in
set_option maxRecDepth 100000 in
theorem w_X9_makes_117 {l : Launch} {w : Wp} {L : Ly} {E : Cx} {a0 : Nat} {x1 x2 : Int32} {R0 : Int32 × Mm} (cx : Ok w L E RX9 cX9_makes 4 2) (en : En w L E none R0) (h0 : LTramWiresModel w L (a0)) {M : Mm} (hf : b_X9_makes_117 a0 M x1 x2 = some R0) : G l w L E M [(0, .ref a0), (1, .int x1), (2, .int x2)] 117 [] := by
  unfold b_X9_makes_117 at hf
  refine g_sipush (pc := 117) (v := 161) cx dX9_makes_117 (by decide) ?_
  refine g_iconst (pc := 120) (v := 3) cx dX9_makes_120 (by decide) ?_
  refine g_aload_n (pc := 121) cx dX9_makes_121 rfl 0 rfl ?_
  refine fg_X9_7 (pc := 122) cx dX9_makes_122 h0 ?_
  refine g_iconst (pc := 125) (v := 5) cx dX9_makes_125 (by decide) ?_
  refine g_iald (pc := 126) cx (LTramWiresModel_st h0) dX9_makes_126 hf (fun hf => ?_)
  refine g_imul (pc := 127) cx dX9_makes_127 ?_
  refine g_iadd (pc := 128) cx dX9_makes_128 ?_
  refine g_nm hf (fun v1 hf => ?_)
  refine g_istore_n (pc := 129) cx [(3, .int v1), (0, .ref a0), (1, .int x1), (2, .int x2)] dX9_makes_129 rfl (by decide) rfl ?_
  refine g_aload_n (pc := 130) cx dX9_makes_130 rfl 1 rfl ?_
  refine fg_X9_7 (pc := 131) cx dX9_makes_131 h0 ?_
  refine g_iload_n (pc := 134) cx dX9_makes_134 rfl 0 rfl ?_
  refine g_iload_n (pc := 135) cx dX9_makes_135 rfl 2 rfl ?_
  refine g_iast (pc := 136) cx (LTramWiresModel_st h0) dX9_makes_136 hf (fun M2 hf => ?_)
  refine g_aload_n (pc := 137) cx dX9_makes_137 rfl 1 rfl ?_
  refine fg_X9_7 (pc := 138) cx dX9_makes_138 h0 ?_
  refine g_iload_n (pc := 141) cx dX9_makes_141 rfl 0 rfl ?_
  refine g_iconst (pc := 142) (v := 1) cx dX9_makes_142 (by decide) ?_
  refine g_iadd (pc := 143) cx dX9_makes_143 ?_
  refine g_iload_n (pc := 144) cx dX9_makes_144 rfl 3 rfl ?_
  refine g_iast (pc := 145) cx (LTramWiresModel_st h0) dX9_makes_145 hf (fun M3 hf => ?_)
  refine g_aload_n (pc := 146) cx dX9_makes_146 rfl 1 rfl ?_
  refine fg_X9_7 (pc := 147) cx dX9_makes_147 h0 ?_
  refine g_iload_n (pc := 150) cx dX9_makes_150 rfl 0 rfl ?_
  refine g_iconst (pc := 151) (v := 2) cx dX9_makes_151 (by decide) ?_
  refine g_iadd (pc := 152) cx dX9_makes_152 ?_
  refine g_aload_n (pc := 153) cx dX9_makes_153 rfl 1 rfl ?_
  refine fg_X9_7 (pc := 154) cx dX9_makes_154 h0 ?_
  refine g_iconst (pc := 157) (v := 3) cx dX9_makes_157 (by decide) ?_
  refine g_iald (pc := 158) cx (LTramWiresModel_st h0) dX9_makes_158 hf (fun hf => ?_)
  refine g_iast (pc := 159) cx (LTramWiresModel_st h0) dX9_makes_159 hf (fun M4 hf => ?_)
  refine g_aload_n (pc := 160) cx dX9_makes_160 rfl 1 rfl ?_
  refine fg_X9_7 (pc := 161) cx dX9_makes_161 h0 ?_
  refine g_iconst (pc := 164) (v := 5) cx dX9_makes_164 (by decide) ?_
  refine g_dup2 (pc := 165) cx dX9_makes_165 rfl rfl ?_
  refine g_iald (pc := 166) cx (LTramWiresModel_st h0) dX9_makes_166 hf (fun hf => ?_)
  refine g_iconst (pc := 167) (v := 1) cx dX9_makes_167 (by decide) ?_
  refine g_iadd (pc := 168) cx dX9_makes_168 ?_
  refine g_iast (pc := 169) cx (LTramWiresModel_st h0) dX9_makes_169 hf (fun M5 hf => ?_)
  refine g_aload_n (pc := 170) cx dX9_makes_170 rfl 1 rfl ?_
  refine fg_X9_7 (pc := 171) cx dX9_makes_171 h0 ?_
  refine g_iconst (pc := 174) (v := 4) cx dX9_makes_174 (by decide) ?_
  refine g_dup2 (pc := 175) cx dX9_makes_175 rfl rfl ?_
  refine g_iald (pc := 176) cx (LTramWiresModel_st h0) dX9_makes_176 hf (fun hf => ?_)
  refine g_iconst (pc := 177) (v := 1) cx dX9_makes_177 (by decide) ?_
  refine g_iadd (pc := 178) cx dX9_makes_178 ?_
  refine g_iast (pc := 179) cx (LTramWiresModel_st h0) dX9_makes_179 hf (fun M6 hf => ?_)
  exact g_vret (pc := 180) cx en dX9_makes_180 hf
set_option maxHeartbeats 4000000 in
set_option maxRecDepth 100000 in
theorem w_X9_makes_102 {l : Launch} {w : Wp} {L : Ly} {E : Cx} {a0 : Nat} {x1 x2 : Int32} {R0 : Int32 × Mm} (cx : Ok w L E RX9 cX9_makes 4 2) (en : En w L E none R0) (h0 : LTramWiresModel w L (a0)) {M : Mm} (hf : b_X9_makes_102 a0 M x1 x2 = some R0) : G l w L E M [(0, .ref a0), (1, .int x1), (2, .int x2)] 102 [] := by
  unfold b_X9_makes_102 at hf
  refine g_aload_n (pc := 102) cx dX9_makes_102 rfl 0 rfl ?_
  refine fg_X9_7 (pc := 103) cx dX9_makes_103 h0 ?_
  refine g_iconst (pc := 106) (v := 5) cx dX9_makes_106 (by decide) ?_
  refine g_iald (pc := 107) cx (LTramWiresModel_st h0) dX9_makes_107 hf (fun hf => ?_)
  refine g_bipush (pc := 108) (v := 24) cx dX9_makes_108 (by decide) ?_
  refine g_icmp_ne (pc := 110) (tgt := 117) cx dX9_makes_110 rfl hf (fun hf => ?_) (fun hf => ?_)
  · refine g_aload_n (pc := 113) cx dX9_makes_113 rfl 0 rfl ?_
    obtain ⟨q3, M1, hc2, hf⟩ := obn_some2 hf
    refine g_callVv (pc := 114) [] [] cx lk_X9_150 vw_X9 (LTramWiresModel_o h0) (by decide) (c_X9_forgets h0 hc2) dX9_makes_114 (Nat.le_of_ble_eq_true rfl) ?_
    exact w_X9_makes_117 cx en h0 hf
  · exact w_X9_makes_117 cx en h0 hf
set_option maxHeartbeats 4000000 in
set_option maxRecDepth 100000 in
theorem w_X9_makes_23 {l : Launch} {w : Wp} {L : Ly} {E : Cx} {a0 : Nat} {x1 x2 s1 s2 s3 : Int32} {R0 : Int32 × Mm} (cx : Ok w L E RX9 cX9_makes 4 2) (en : En w L E none R0) (h0 : LTramWiresModel w L (a0)) {M : Mm} (hf : b_X9_makes_23 a0 M x1 x2 s1 s2 s3 = some R0) : G l w L E M [(0, .ref a0), (1, .int x1), (2, .int x2)] 23 [.int s3, .int s2, .int s1, .ref a0] := by
  unfold b_X9_makes_23 at hf
  obtain ⟨q3, M1, hc2, hf⟩ := obn_some2 hf
  refine g_callVv (pc := 23) [.int s1, .int s2, .int s3] [] cx lk_X9_80 vw_X9 (LTramWiresModel_o h0) (by decide) (c_X9_lay h0 hc2) dX9_makes_23 (Nat.le_of_ble_eq_true rfl) ?_
  refine g_goto (pc := 26) (tgt := 102) cx dX9_makes_26 rfl ?_
  exact w_X9_makes_102 cx en h0 hf
set_option maxHeartbeats 4000000 in
set_option maxRecDepth 100000 in
theorem w_X9_makes_10 {l : Launch} {w : Wp} {L : Ly} {E : Cx} {a0 : Nat} {x1 x2 : Int32} {R0 : Int32 × Mm} (cx : Ok w L E RX9 cX9_makes 4 2) (en : En w L E none R0) (h0 : LTramWiresModel w L (a0)) {M : Mm} (hf : b_X9_makes_10 a0 M x1 x2 = some R0) : G l w L E M [(0, .ref a0), (1, .int x1), (2, .int x2)] 10 [] := by
  unfold b_X9_makes_10 at hf
  refine g_aload_n (pc := 10) cx dX9_makes_10 rfl 0 rfl ?_
  refine g_iload_n (pc := 11) cx dX9_makes_11 rfl 2 rfl ?_
  refine g_iconst (pc := 12) (v := 2) cx dX9_makes_12 (by decide) ?_
  refine g_iload_n (pc := 13) cx dX9_makes_13 rfl 1 rfl ?_
  refine g_iconst (pc := 14) (v := 3) cx dX9_makes_14 (by decide) ?_
  refine g_icmp_ne (pc := 15) (tgt := 22) cx dX9_makes_15 rfl hf (fun hf => ?_) (fun hf => ?_)
  · refine g_iconst (pc := 18) (v := 1) cx dX9_makes_18 (by decide) ?_
    refine g_goto (pc := 19) (tgt := 23) cx dX9_makes_19 rfl ?_
    exact w_X9_makes_23 cx en h0 hf
  · refine g_iconst (pc := 22) (v := 0) cx dX9_makes_22 (by decide) ?_
    exact w_X9_makes_23 cx en h0 hf
set_option maxHeartbeats 4000000 in
set_option maxRecDepth 100000 in
theorem w_X9_makes_52 {l : Launch} {w : Wp} {L : Ly} {E : Cx} {a0 : Nat} {x1 x2 s1 s2 s3 : Int32} {R0 : Int32 × Mm} (cx : Ok w L E RX9 cX9_makes 4 2) (en : En w L E none R0) (h0 : LTramWiresModel w L (a0)) {M : Mm} (hf : b_X9_makes_52 a0 M x1 x2 s1 s2 s3 = some R0) : G l w L E M [(0, .ref a0), (1, .int x1), (2, .int x2)] 52 [.int s3, .int s2, .int s1, .ref a0] := by
  unfold b_X9_makes_52 at hf
  obtain ⟨q3, M1, hc2, hf⟩ := obn_some2 hf
  refine g_callVv (pc := 52) [.int s1, .int s2, .int s3] [] cx lk_X9_76 vw_X9 (LTramWiresModel_o h0) (by decide) (c_X9_put h0 hc2) dX9_makes_52 (Nat.le_of_ble_eq_true rfl) ?_
  refine g_goto (pc := 55) (tgt := 102) cx dX9_makes_55 rfl ?_
  exact w_X9_makes_102 cx en h0 hf
set_option maxHeartbeats 4000000 in
set_option maxRecDepth 100000 in
theorem w_X9_makes_39 {l : Launch} {w : Wp} {L : Ly} {E : Cx} {a0 : Nat} {x1 x2 : Int32} {R0 : Int32 × Mm} (cx : Ok w L E RX9 cX9_makes 4 2) (en : En w L E none R0) (h0 : LTramWiresModel w L (a0)) {M : Mm} (hf : b_X9_makes_39 a0 M x1 x2 = some R0) : G l w L E M [(0, .ref a0), (1, .int x1), (2, .int x2)] 39 [] := by
  unfold b_X9_makes_39 at hf
  refine g_aload_n (pc := 39) cx dX9_makes_39 rfl 0 rfl ?_
  refine g_iload_n (pc := 40) cx dX9_makes_40 rfl 2 rfl ?_
  refine g_iconst (pc := 41) (v := 1) cx dX9_makes_41 (by decide) ?_
  refine g_iload_n (pc := 42) cx dX9_makes_42 rfl 1 rfl ?_
  refine g_iconst (pc := 43) (v := 5) cx dX9_makes_43 (by decide) ?_
  refine g_icmp_ne (pc := 44) (tgt := 51) cx dX9_makes_44 rfl hf (fun hf => ?_) (fun hf => ?_)
  · refine g_iconst (pc := 47) (v := 2) cx dX9_makes_47 (by decide) ?_
    refine g_goto (pc := 48) (tgt := 52) cx dX9_makes_48 rfl ?_
    exact w_X9_makes_52 cx en h0 hf
  · refine g_iconst (pc := 51) (v := 1) cx dX9_makes_51 (by decide) ?_
    exact w_X9_makes_52 cx en h0 hf
set_option maxHeartbeats 4000000 in
set_option maxRecDepth 100000 in
theorem w_X9_makes_79 {l : Launch} {w : Wp} {L : Ly} {E : Cx} {a0 : Nat} {x1 x2 s1 s2 s3 : Int32} {R0 : Int32 × Mm} (cx : Ok w L E RX9 cX9_makes 4 2) (en : En w L E none R0) (h0 : LTramWiresModel w L (a0)) {M : Mm} (hf : b_X9_makes_79 a0 M x1 x2 s1 s2 s3 = some R0) : G l w L E M [(0, .ref a0), (1, .int x1), (2, .int x2)] 79 [.int s3, .int s2, .int s1, .ref a0] := by
  unfold b_X9_makes_79 at hf
  obtain ⟨q3, M1, hc2, hf⟩ := obn_some2 hf
  refine g_callVv (pc := 79) [.int s1, .int s2, .int s3] [] cx lk_X9_76 vw_X9 (LTramWiresModel_o h0) (by decide) (c_X9_put h0 hc2) dX9_makes_79 (Nat.le_of_ble_eq_true rfl) ?_
  refine g_goto (pc := 82) (tgt := 102) cx dX9_makes_82 rfl ?_
  exact w_X9_makes_102 cx en h0 hf
set_option maxHeartbeats 4000000 in
set_option maxRecDepth 100000 in
theorem w_X9_makes_67 {l : Launch} {w : Wp} {L : Ly} {E : Cx} {a0 : Nat} {x1 x2 : Int32} {R0 : Int32 × Mm} (cx : Ok w L E RX9 cX9_makes 4 2) (en : En w L E none R0) (h0 : LTramWiresModel w L (a0)) {M : Mm} (hf : b_X9_makes_67 a0 M x1 x2 = some R0) : G l w L E M [(0, .ref a0), (1, .int x1), (2, .int x2)] 67 [] := by
  unfold b_X9_makes_67 at hf
  refine g_aload_n (pc := 67) cx dX9_makes_67 rfl 0 rfl ?_
  refine g_iload_n (pc := 68) cx dX9_makes_68 rfl 2 rfl ?_
  refine g_iconst (pc := 69) (v := 2) cx dX9_makes_69 (by decide) ?_
  refine g_iload_n (pc := 70) cx dX9_makes_70 rfl 1 rfl ?_
  refine g_if_ne (pc := 71) (tgt := 78) cx dX9_makes_71 rfl hf (fun hf => ?_) (fun hf => ?_)
  · refine g_iconst (pc := 74) (v := 1) cx dX9_makes_74 (by decide) ?_
    refine g_goto (pc := 75) (tgt := 79) cx dX9_makes_75 rfl ?_
    exact w_X9_makes_79 cx en h0 hf
  · refine g_iconst (pc := 78) (v := 0) cx dX9_makes_78 (by decide) ?_
    exact w_X9_makes_79 cx en h0 hf
set_option maxHeartbeats 4000000 in
set_option maxRecDepth 100000 in
theorem w_X9_makes_99 {l : Launch} {w : Wp} {L : Ly} {E : Cx} {a0 : Nat} {x1 x2 s1 s2 s3 : Int32} {R0 : Int32 × Mm} (cx : Ok w L E RX9 cX9_makes 4 2) (en : En w L E none R0) (h0 : LTramWiresModel w L (a0)) {M : Mm} (hf : b_X9_makes_99 a0 M x1 x2 s1 s2 s3 = some R0) : G l w L E M [(0, .ref a0), (1, .int x1), (2, .int x2)] 99 [.int s3, .int s2, .int s1, .ref a0] := by
  unfold b_X9_makes_99 at hf
  obtain ⟨q3, M1, hc2, hf⟩ := obn_some2 hf
  refine g_callVv (pc := 99) [.int s1, .int s2, .int s3] [] cx lk_X9_76 vw_X9 (LTramWiresModel_o h0) (by decide) (c_X9_put h0 hc2) dX9_makes_99 (Nat.le_of_ble_eq_true rfl) ?_
  exact w_X9_makes_102 cx en h0 hf
set_option maxHeartbeats 4000000 in
set_option maxRecDepth 100000 in
theorem c_X9_makes {l : Launch} {w : Wp} {L : Ly} {a0 : Nat} {M : Mm} {x1 x2 : Int32} {R0 : Int32 × Mm} (h0 : LTramWiresModel w L (a0)) (hf : f_X9_makes a0 M x1 x2 = some R0) : CT l w L yX9_makes cX9_makes 4 none 2 [.ref a0, .int x1, .int x2] M R0 := by
  unfold f_X9_makes at hf
  refine CT_of pn_X9 (Nat.le_of_ble_eq_true rfl) (fun E cx en => ?_)
  have cx : Ok w L E RX9 cX9_makes 4 2 := cx
  show G l w L E M [(0, .ref a0), (1, .int x1), (2, .int x2)] 0 []
  refine g_iload_n (pc := 0) cx dX9_makes_0 rfl 1 rfl ?_
  refine g_iconst (pc := 1) (v := 2) cx dX9_makes_1 (by decide) ?_
  refine g_icmp_eq (pc := 2) (tgt := 10) cx dX9_makes_2 rfl hf (fun hf => ?_) (fun hf => ?_)
  · exact w_X9_makes_10 cx en h0 hf
  · refine g_iload_n (pc := 5) cx dX9_makes_5 rfl 1 rfl ?_
    refine g_iconst (pc := 6) (v := 3) cx dX9_makes_6 (by decide) ?_
    refine g_icmp_ne (pc := 7) (tgt := 29) cx dX9_makes_7 rfl hf (fun hf => ?_) (fun hf => ?_)
    · exact w_X9_makes_10 cx en h0 hf
    · refine g_iload_n (pc := 29) cx dX9_makes_29 rfl 1 rfl ?_
      refine g_iconst (pc := 30) (v := 4) cx dX9_makes_30 (by decide) ?_
      refine g_icmp_eq (pc := 31) (tgt := 39) cx dX9_makes_31 rfl hf (fun hf => ?_) (fun hf => ?_)
      · exact w_X9_makes_39 cx en h0 hf
      · refine g_iload_n (pc := 34) cx dX9_makes_34 rfl 1 rfl ?_
        refine g_iconst (pc := 35) (v := 5) cx dX9_makes_35 (by decide) ?_
        refine g_icmp_ne (pc := 36) (tgt := 58) cx dX9_makes_36 rfl hf (fun hf => ?_) (fun hf => ?_)
        · exact w_X9_makes_39 cx en h0 hf
        · refine g_iload_n (pc := 58) cx dX9_makes_58 rfl 1 rfl ?_
          refine g_if_eq (pc := 59) (tgt := 67) cx dX9_makes_59 rfl hf (fun hf => ?_) (fun hf => ?_)
          · exact w_X9_makes_67 cx en h0 hf
          · refine g_iload_n (pc := 62) cx dX9_makes_62 rfl 1 rfl ?_
            refine g_iconst (pc := 63) (v := 1) cx dX9_makes_63 (by decide) ?_
            refine g_icmp_ne (pc := 64) (tgt := 85) cx dX9_makes_64 rfl hf (fun hf => ?_) (fun hf => ?_)
            · exact w_X9_makes_67 cx en h0 hf
            · refine g_aload_n (pc := 85) cx dX9_makes_85 rfl 0 rfl ?_
              refine g_iload_n (pc := 86) cx dX9_makes_86 rfl 2 rfl ?_
              refine g_iconst (pc := 87) (v := 3) cx dX9_makes_87 (by decide) ?_
              refine g_iload_n (pc := 88) cx dX9_makes_88 rfl 1 rfl ?_
              refine g_bipush (pc := 89) (v := 6) cx dX9_makes_89 (by decide) ?_
              refine g_icmp_ne (pc := 91) (tgt := 98) cx dX9_makes_91 rfl hf (fun hf => ?_) (fun hf => ?_)
              · refine g_iconst (pc := 94) (v := 1) cx dX9_makes_94 (by decide) ?_
                refine g_goto (pc := 95) (tgt := 99) cx dX9_makes_95 rfl ?_
                exact w_X9_makes_99 cx en h0 hf
              · refine g_iconst (pc := 98) (v := 0) cx dX9_makes_98 (by decide) ?_
                exact w_X9_makes_99 cx en h0 hf
/-! X9_step -/
def b_X9_step_19 (a0 : Nat) (M : Mm) : OR := some ((-1), M)
def f_X9_step (a0 : Nat) (M : Mm) (x1 x2 : Int32) : OR := obn (f_X9_in M x1 0 7) fun q3 M1 => (if q3 = 0 then b_X9_step_19 a0 M1 else obn (f_X9_isPlace a0 M1 x1 x2) fun q6 M4 => (if q6 = 0 then b_X9_step_19 a0 M4 else obn (f_X9_refuses a0 M4 x1 x2) fun q9 M7 => (if q9 = 0 then obn (f_X9_records a0 M7) fun _ M10 => (obn (f_X9_makes a0 M10 x1 x2) fun _ M13 => (obn (f_X9_liveNow a0 M13) fun q18 M16 => (obn (f_X9_bits M16 q18) fun q21 M19 => (some (q21, M19))))) else some ((-2), M7))))
set_option maxHeartbeats 4000000 in
set_option maxRecDepth 100000 in
theorem w_X9_step_19 {l : Launch} {w : Wp} {L : Ly} {E : Cx} {a0 : Nat} {R0 : Int32 × Mm} (cx : Ok w L E RX9 cX9_step 3 6) (en : En w L E (some .int) R0) (h0 : LTramWiresModel w L (a0)) {M : Mm} (hf : b_X9_step_19 a0 M = some R0) : G l w L E M [] 19 [] := by
  unfold b_X9_step_19 at hf
  refine g_iconst (pc := 19) (v := (-1)) cx dX9_step_19 (by decide) ?_
  exact g_iret (pc := 20) cx en dX9_step_20 rfl hf
set_option maxHeartbeats 4000000 in
set_option maxRecDepth 100000 in
theorem c_X9_step {l : Launch} {w : Wp} {L : Ly} {a0 : Nat} {M : Mm} {x1 x2 : Int32} {R0 : Int32 × Mm} (h0 : LTramWiresModel w L (a0)) (hf : f_X9_step a0 M x1 x2 = some R0) : CT l w L yX9_step cX9_step 3 (some .int) 6 [.ref a0, .int x1, .int x2] M R0 := by
  unfold f_X9_step at hf
  refine CT_of pn_X9 (Nat.le_of_ble_eq_true rfl) (fun E cx en => ?_)
  have cx : Ok w L E RX9 cX9_step 3 6 := cx
  show G l w L E M [(0, .ref a0), (1, .int x1), (2, .int x2)] 0 []
  refine g_iload_n (pc := 0) cx dX9_step_0 rfl 1 rfl ?_
  refine g_iconst (pc := 1) (v := 0) cx dX9_step_1 (by decide) ?_
  refine g_bipush (pc := 2) (v := 7) cx dX9_step_2 (by decide) ?_
  obtain ⟨q3, M1, hc2, hf⟩ := obn_some2 hf
  refine g_callSi (pc := 4) [.int x1, .int 0, .int 7] [] cx lk_X9_25 (by decide) (c_X9_in hc2) dX9_step_4 (Nat.le_of_ble_eq_true rfl) ?_
  refine g_if_eq (pc := 7) (tgt := 19) cx dX9_step_7 rfl hf (fun hf => ?_) (fun hf => ?_)
  · refine g_sub [] [] rfl ?_
    exact w_X9_step_19 cx en h0 hf
  · refine g_aload_n (pc := 10) cx dX9_step_10 rfl 0 rfl ?_
    refine g_iload_n (pc := 11) cx dX9_step_11 rfl 1 rfl ?_
    refine g_iload_n (pc := 12) cx dX9_step_12 rfl 2 rfl ?_
    obtain ⟨q6, M4, hc5, hf⟩ := obn_some2 hf
    refine g_callVi (pc := 13) [.int x1, .int x2] [] cx lk_X9_144 vw_X9 (LTramWiresModel_o h0) (by decide) (c_X9_isPlace h0 hc5) dX9_step_13 (Nat.le_of_ble_eq_true rfl) ?_
    refine g_if_ne (pc := 16) (tgt := 21) cx dX9_step_16 rfl hf (fun hf => ?_) (fun hf => ?_)
    · refine g_sub [] [] rfl ?_
      exact w_X9_step_19 cx en h0 hf
    · refine g_aload_n (pc := 21) cx dX9_step_21 rfl 0 rfl ?_
      refine g_iload_n (pc := 22) cx dX9_step_22 rfl 1 rfl ?_
      refine g_iload_n (pc := 23) cx dX9_step_23 rfl 2 rfl ?_
      obtain ⟨q9, M7, hc8, hf⟩ := obn_some2 hf
      refine g_callVi (pc := 24) [.int x1, .int x2] [] cx lk_X9_147 vw_X9 (LTramWiresModel_o h0) (by decide) (c_X9_refuses h0 hc8) dX9_step_24 (Nat.le_of_ble_eq_true rfl) ?_
      refine g_if_eq (pc := 27) (tgt := 33) cx dX9_step_27 rfl hf (fun hf => ?_) (fun hf => ?_)
      · refine g_aload_n (pc := 33) cx dX9_step_33 rfl 0 rfl ?_
        obtain ⟨q12, M10, hc11, hf⟩ := obn_some2 hf
        refine g_callVv (pc := 34) [] [] cx lk_X9_73 vw_X9 (LTramWiresModel_o h0) (by decide) (c_X9_records h0 hc11) dX9_step_34 (Nat.le_of_ble_eq_true rfl) ?_
        refine g_aload_n (pc := 37) cx dX9_step_37 rfl 0 rfl ?_
        refine g_iload_n (pc := 38) cx dX9_step_38 rfl 1 rfl ?_
        refine g_iload_n (pc := 39) cx dX9_step_39 rfl 2 rfl ?_
        obtain ⟨q15, M13, hc14, hf⟩ := obn_some2 hf
        refine g_callVv (pc := 40) [.int x1, .int x2] [] cx lk_X9_153 vw_X9 (LTramWiresModel_o h0) (by decide) (c_X9_makes h0 hc14) dX9_step_40 (Nat.le_of_ble_eq_true rfl) ?_
        refine g_aload_n (pc := 43) cx dX9_step_43 rfl 0 rfl ?_
        obtain ⟨q18, M16, hc17, hf⟩ := obn_some2 hf
        refine g_callVi (pc := 44) [] [] cx lk_X9_57 vw_X9 (LTramWiresModel_o h0) (by decide) (c_X9_liveNow h0 hc17) dX9_step_44 (Nat.le_of_ble_eq_true rfl) ?_
        obtain ⟨q21, M19, hc20, hf⟩ := obn_some2 hf
        refine g_callSi (pc := 47) [.int q18] [] cx lk_X9_110 (by decide) (c_X9_bits hc20) dX9_step_47 (Nat.le_of_ble_eq_true rfl) ?_
        exact g_iret (pc := 50) cx en dX9_step_50 rfl hf
      · refine g_bipush (pc := 30) (v := (-2)) cx dX9_step_30 (by decide) ?_
        exact g_iret (pc := 32) cx en dX9_step_32 rfl hf
/-! X9_log -/
def b_X9_log_13 (a0 : Nat) (M : Mm) : OR := some ((-1), M)
def b_X9_log_45 (a0 : Nat) (M : Mm) (s0 : Int32) : OR := some (s0, M)
def f_X9_log (a0 : Nat) (M : Mm) (x1 x2 : Int32) : OR := if x1 < 0 then b_X9_log_13 a0 M else obn (f_X9_in M x2 0 2) fun q3 M1 => (if q3 = 0 then b_X9_log_13 a0 M1 else ckd 5 233 (if x1 < (M1 (a0 + 1) (ix 5)) then ckd 5 233 (obn (f_X9_logged a0 M1 (((M1 (a0 + 1) (ix 5)) - 1) - x1) x2) fun q6 M4 => (b_X9_log_45 a0 M4 q6)) else b_X9_log_45 a0 M1 (-4)))
set_option maxHeartbeats 4000000 in
set_option maxRecDepth 100000 in
theorem w_X9_log_13 {l : Launch} {w : Wp} {L : Ly} {E : Cx} {a0 : Nat} {R0 : Int32 × Mm} (cx : Ok w L E RX9 cX9_log 3 1) (en : En w L E (some .int) R0) (h0 : LTramWiresModel w L (a0)) {M : Mm} (hf : b_X9_log_13 a0 M = some R0) : G l w L E M [] 13 [] := by
  unfold b_X9_log_13 at hf
  refine g_iconst (pc := 13) (v := (-1)) cx dX9_log_13 (by decide) ?_
  exact g_iret (pc := 14) cx en dX9_log_14 rfl hf
set_option maxHeartbeats 4000000 in
set_option maxRecDepth 100000 in
theorem w_X9_log_45 {l : Launch} {w : Wp} {L : Ly} {E : Cx} {a0 : Nat} {s0 : Int32} {R0 : Int32 × Mm} (cx : Ok w L E RX9 cX9_log 3 1) (en : En w L E (some .int) R0) (h0 : LTramWiresModel w L (a0)) {M : Mm} (hf : b_X9_log_45 a0 M s0 = some R0) : G l w L E M [] 45 [.int s0] := by
  unfold b_X9_log_45 at hf
  exact g_iret (pc := 45) cx en dX9_log_45 rfl hf
set_option maxHeartbeats 4000000 in
set_option maxRecDepth 100000 in
theorem c_X9_log {l : Launch} {w : Wp} {L : Ly} {a0 : Nat} {M : Mm} {x1 x2 : Int32} {R0 : Int32 × Mm} (h0 : LTramWiresModel w L (a0)) (hf : f_X9_log a0 M x1 x2 = some R0) : CT l w L yX9_log cX9_log 3 (some .int) 1 [.ref a0, .int x1, .int x2] M R0 := by
  unfold f_X9_log at hf
  refine CT_of pn_X9 (Nat.le_of_ble_eq_true rfl) (fun E cx en => ?_)
  have cx : Ok w L E RX9 cX9_log 3 1 := cx
  show G l w L E M [(0, .ref a0), (1, .int x1), (2, .int x2)] 0 []
  refine g_iload_n (pc := 0) cx dX9_log_0 rfl 1 rfl ?_
  refine g_if_lt (pc := 1) (tgt := 13) cx dX9_log_1 rfl hf (fun hf => ?_) (fun hf => ?_)
  · refine g_sub [] [] rfl ?_
    exact w_X9_log_13 cx en h0 hf
  · refine g_iload_n (pc := 4) cx dX9_log_4 rfl 2 rfl ?_
    refine g_iconst (pc := 5) (v := 0) cx dX9_log_5 (by decide) ?_
    refine g_iconst (pc := 6) (v := 2) cx dX9_log_6 (by decide) ?_
    obtain ⟨q3, M1, hc2, hf⟩ := obn_some2 hf
    refine g_callSi (pc := 7) [.int x2, .int 0, .int 2] [] cx lk_X9_25 (by decide) (c_X9_in hc2) dX9_log_7 (Nat.le_of_ble_eq_true rfl) ?_
    refine g_if_ne (pc := 10) (tgt := 15) cx dX9_log_10 rfl hf (fun hf => ?_) (fun hf => ?_)
    · refine g_sub [] [] rfl ?_
      exact w_X9_log_13 cx en h0 hf
    · refine g_iload_n (pc := 15) cx dX9_log_15 rfl 1 rfl ?_
      refine g_aload_n (pc := 16) cx dX9_log_16 rfl 0 rfl ?_
      refine fg_X9_7 (pc := 17) cx dX9_log_17 h0 ?_
      refine g_iconst (pc := 20) (v := 5) cx dX9_log_20 (by decide) ?_
      refine g_iald (pc := 21) cx (LTramWiresModel_st h0) dX9_log_21 hf (fun hf => ?_)
      refine g_icmp_ge (pc := 22) (tgt := 43) cx dX9_log_22 rfl hf (fun hf => ?_) (fun hf => ?_)
      · refine g_aload_n (pc := 25) cx dX9_log_25 rfl 0 rfl ?_
        refine g_aload_n (pc := 26) cx dX9_log_26 rfl 0 rfl ?_
        refine fg_X9_7 (pc := 27) cx dX9_log_27 h0 ?_
        refine g_iconst (pc := 30) (v := 5) cx dX9_log_30 (by decide) ?_
        refine g_iald (pc := 31) cx (LTramWiresModel_st h0) dX9_log_31 hf (fun hf => ?_)
        refine g_iconst (pc := 32) (v := 1) cx dX9_log_32 (by decide) ?_
        refine g_isub (pc := 33) cx dX9_log_33 ?_
        refine g_iload_n (pc := 34) cx dX9_log_34 rfl 1 rfl ?_
        refine g_isub (pc := 35) cx dX9_log_35 ?_
        refine g_iload_n (pc := 36) cx dX9_log_36 rfl 2 rfl ?_
        obtain ⟨q6, M4, hc5, hf⟩ := obn_some2 hf
        refine g_callVi (pc := 37) [.int (((M1 (a0 + 1) (ix 5)) - 1) - x1), .int x2] [] cx lk_X9_60 vw_X9 (LTramWiresModel_o h0) (by decide) (c_X9_logged h0 hc5) dX9_log_37 (Nat.le_of_ble_eq_true rfl) ?_
        refine g_goto (pc := 40) (tgt := 45) cx dX9_log_40 rfl ?_
        refine g_sub [] [] rfl ?_
        exact w_X9_log_45 cx en h0 hf
      · refine g_bipush (pc := 43) (v := (-4)) cx dX9_log_43 (by decide) ?_
        refine g_sub [] [] rfl ?_
        exact w_X9_log_45 cx en h0 hf
/-! X9_plans -/
def f_X9_plans (a0 : Nat) (M : Mm) (x1 x2 : Int32) : OR := ckd (M a0 7) 19 (bnd (mst M (a0 + 5) (ix (M a0 7)) ((100 * x1) + x2)) fun M1 => bnd (mst M1 a0 7 ((M1 a0 7) + 1)) fun M2 => some (0, M2))
set_option maxHeartbeats 4000000 in
set_option maxRecDepth 100000 in
theorem c_X9_plans {l : Launch} {w : Wp} {L : Ly} {a0 : Nat} {M : Mm} {x1 x2 : Int32} {R0 : Int32 × Mm} (h0 : LTramWiresModel w L (a0)) (hf : f_X9_plans a0 M x1 x2 = some R0) : CT l w L yX9_plans cX9_plans 3 none 0 [.ref a0, .int x1, .int x2] M R0 := by
  unfold f_X9_plans at hf
  refine CT_of pn_X9 (Nat.le_of_ble_eq_true rfl) (fun E cx en => ?_)
  have cx : Ok w L E RX9 cX9_plans 3 0 := cx
  show G l w L E M [(0, .ref a0), (1, .int x1), (2, .int x2)] 0 []
  refine g_aload_n (pc := 0) cx dX9_plans_0 rfl 0 rfl ?_
  refine fg_X9_22 (pc := 1) cx dX9_plans_1 h0 ?_
  refine g_aload_n (pc := 4) cx dX9_plans_4 rfl 0 rfl ?_
  refine fg_X9_156 (pc := 5) cx dX9_plans_5 h0 ?_
  refine g_bipush (pc := 8) (v := 100) cx dX9_plans_8 (by decide) ?_
  refine g_iload_n (pc := 10) cx dX9_plans_10 rfl 1 rfl ?_
  refine g_imul (pc := 11) cx dX9_plans_11 ?_
  refine g_iload_n (pc := 12) cx dX9_plans_12 rfl 2 rfl ?_
  refine g_iadd (pc := 13) cx dX9_plans_13 ?_
  refine g_iast (pc := 14) cx (LTramWiresModel_row h0) dX9_plans_14 hf (fun M1 hf => ?_)
  refine g_aload_n (pc := 15) cx dX9_plans_15 rfl 0 rfl ?_
  refine g_dup (pc := 16) cx dX9_plans_16 rfl ?_
  refine fg_X9_156 (pc := 17) cx dX9_plans_17 h0 ?_
  refine g_iconst (pc := 20) (v := 1) cx dX9_plans_20 (by decide) ?_
  refine g_iadd (pc := 21) cx dX9_plans_21 ?_
  refine fp_X9_156 (pc := 22) cx dX9_plans_22 h0 hf (fun M2 hf => ?_)
  exact g_vret (pc := 25) cx en dX9_plans_25 hf
/-! X9_laysPlan -/
def b_X9_laysPlan_84 (a0 : Nat) (rc38 : Mm → Int32 → OR) (M : Mm) (x1 x2 : Int32) : OR := rc38 M (x2 + 1)
def b_X9_laysPlan_78 (a0 : Nat) (rc38 : Mm → Int32 → OR) (M : Mm) (x1 x2 : Int32) : OR := obn (f_X9_plans a0 M 2 x2) fun _ M1 => (b_X9_laysPlan_84 a0 rc38 M1 x1 x2)
def b_X9_laysPlan_106 (a0 : Nat) (M : Mm) : OR := some (0, M)
def l_X9_laysPlan_38 (a0 : Nat) (x1 : Int32) : Nat → Mm → Int32 → OR
  | 0, _, _ => none
  | k + 1, M, x2 => ckd 1 233 (if x2 < (M (a0 + 1) (ix 1)) then obn (f_X9_at a0 M x2 2) fun q3 M1 => (if q3 = 1 then obn (f_X9_at a0 M1 x2 0) fun q6 M4 => (if q6 = x1 then b_X9_laysPlan_78 a0 (l_X9_laysPlan_38 a0 x1 k) M4 x1 x2 else obn (f_X9_at a0 M4 x2 1) fun q9 M7 => (if q9 = x1 then b_X9_laysPlan_78 a0 (l_X9_laysPlan_38 a0 x1 k) M7 x1 x2 else b_X9_laysPlan_84 a0 (l_X9_laysPlan_38 a0 x1 k) M7 x1 x2)) else b_X9_laysPlan_84 a0 (l_X9_laysPlan_38 a0 x1 k) M1 x1 x2) else obn (f_X9_of a0 M x1 3) fun q12 M10 => (if q12 = 0 then obn (f_X9_plans a0 M10 6 x1) fun _ M13 => (b_X9_laysPlan_106 a0 M13) else b_X9_laysPlan_106 a0 M10))
def b_X9_laysPlan_36 (a0 : Nat) (M : Mm) (x1 : Int32) : OR := l_X9_laysPlan_38 a0 x1 FU M 0
def b_X9_laysPlan_20 (a0 : Nat) (M : Mm) (x1 : Int32) : OR := obn (f_X9_of a0 M x1 1) fun q3 M1 => (if q3 = 2 then obn (f_X9_plans a0 M1 4 x1) fun _ M4 => (b_X9_laysPlan_36 a0 M4 x1) else b_X9_laysPlan_36 a0 M1 x1)
def f_X9_laysPlan (a0 : Nat) (M : Mm) (x1 : Int32) : OR := bnd (mst M a0 7 0) fun M1 => obn (f_X9_of a0 M1 x1 2) fun q4 M2 => (if q4 = 0 then obn (f_X9_plans a0 M2 0 x1) fun _ M5 => (b_X9_laysPlan_20 a0 M5 x1) else b_X9_laysPlan_20 a0 M2 x1)
set_option maxHeartbeats 4000000 in
set_option maxRecDepth 100000 in
theorem w_X9_laysPlan_84 {l : Launch} {w : Wp} {L : Ly} {E : Cx} {a0 : Nat} {rc38 : Mm → Int32 → OR} {x1 x2 : Int32} {R0 : Int32 × Mm} (cx : Ok w L E RX9 cX9_laysPlan 3 1) (en : En w L E none R0) (h0 : LTramWiresModel w L (a0)) (hrc38 : ∀ (M : Mm) (x2 : Int32), rc38 M x2 = some R0 → G l w L E M [(0, .ref a0), (1, .int x1), (2, .int x2)] 38 []) {M : Mm} (hf : b_X9_laysPlan_84 a0 rc38 M x1 x2 = some R0) : G l w L E M [(0, .ref a0), (1, .int x1), (2, .int x2)] 84 [] := by
  unfold b_X9_laysPlan_84 at hf
  refine g_iinc (pc := 84) cx [(2, .int (x2 + 1)), (0, .ref a0), (1, .int x1)] dX9_laysPlan_84 2 rfl rfl (by decide) rfl ?_
  refine g_goto (pc := 87) (tgt := 38) cx dX9_laysPlan_87 rfl ?_
  refine g_sub [1, 2, 0] [(0, .ref a0), (1, .int x1), (2, .int (x2 + 1))] rfl ?_
  exact hrc38 _ _ hf
set_option maxHeartbeats 4000000 in
set_option maxRecDepth 100000 in
theorem w_X9_laysPlan_78 {l : Launch} {w : Wp} {L : Ly} {E : Cx} {a0 : Nat} {rc38 : Mm → Int32 → OR} {x1 x2 : Int32} {R0 : Int32 × Mm} (cx : Ok w L E RX9 cX9_laysPlan 3 1) (en : En w L E none R0) (h0 : LTramWiresModel w L (a0)) (hrc38 : ∀ (M : Mm) (x2 : Int32), rc38 M x2 = some R0 → G l w L E M [(0, .ref a0), (1, .int x1), (2, .int x2)] 38 []) {M : Mm} (hf : b_X9_laysPlan_78 a0 rc38 M x1 x2 = some R0) : G l w L E M [(0, .ref a0), (1, .int x1), (2, .int x2)] 78 [] := by
  unfold b_X9_laysPlan_78 at hf
  refine g_aload_n (pc := 78) cx dX9_laysPlan_78 rfl 0 rfl ?_
  refine g_iconst (pc := 79) (v := 2) cx dX9_laysPlan_79 (by decide) ?_
  refine g_iload_n (pc := 80) cx dX9_laysPlan_80 rfl 2 rfl ?_
  obtain ⟨q3, M1, hc2, hf⟩ := obn_some2 hf
  refine g_callVv (pc := 81) [.int 2, .int x2] [] cx lk_X9_159 vw_X9 (LTramWiresModel_o h0) (by decide) (c_X9_plans h0 hc2) dX9_laysPlan_81 (Nat.le_of_ble_eq_true rfl) ?_
  exact w_X9_laysPlan_84 cx en h0 hrc38 hf
set_option maxHeartbeats 4000000 in
set_option maxRecDepth 100000 in
theorem w_X9_laysPlan_106 {l : Launch} {w : Wp} {L : Ly} {E : Cx} {a0 : Nat} {R0 : Int32 × Mm} (cx : Ok w L E RX9 cX9_laysPlan 3 1) (en : En w L E none R0) (h0 : LTramWiresModel w L (a0)) {M : Mm} (hf : b_X9_laysPlan_106 a0 M = some R0) : G l w L E M [] 106 [] := by
  unfold b_X9_laysPlan_106 at hf
  exact g_vret (pc := 106) cx en dX9_laysPlan_106 hf
set_option maxHeartbeats 4000000 in
set_option maxRecDepth 100000 in
theorem w_X9_laysPlan_38 {l : Launch} {w : Wp} {L : Ly} {E : Cx} {a0 : Nat} {x1 : Int32} {R0 : Int32 × Mm} (cx : Ok w L E RX9 cX9_laysPlan 3 1) (en : En w L E none R0) (h0 : LTramWiresModel w L (a0)) : ∀ (k : Nat) {M : Mm} {x2 : Int32}, l_X9_laysPlan_38 a0 x1 k M x2 = some R0 → G l w L E M [(0, .ref a0), (1, .int x1), (2, .int x2)] 38 [] := by
  intro k
  induction k with
  | zero =>
    intro M x2 hf
    exact absurd hf (by simp [l_X9_laysPlan_38])
  | succ k ih =>
    intro M x2 hf
    unfold l_X9_laysPlan_38 at hf
    refine g_iload_n (pc := 38) cx dX9_laysPlan_38 rfl 2 rfl ?_
    refine g_aload_n (pc := 39) cx dX9_laysPlan_39 rfl 0 rfl ?_
    refine fg_X9_7 (pc := 40) cx dX9_laysPlan_40 h0 ?_
    refine g_iconst (pc := 43) (v := 1) cx dX9_laysPlan_43 (by decide) ?_
    refine g_iald (pc := 44) cx (LTramWiresModel_st h0) dX9_laysPlan_44 hf (fun hf => ?_)
    refine g_icmp_ge (pc := 45) (tgt := 90) cx dX9_laysPlan_45 rfl hf (fun hf => ?_) (fun hf => ?_)
    · refine g_aload_n (pc := 48) cx dX9_laysPlan_48 rfl 0 rfl ?_
      refine g_iload_n (pc := 49) cx dX9_laysPlan_49 rfl 2 rfl ?_
      refine g_iconst (pc := 50) (v := 2) cx dX9_laysPlan_50 (by decide) ?_
      obtain ⟨q3, M1, hc2, hf⟩ := obn_some2 hf
      refine g_callVi (pc := 51) [.int x2, .int 2] [] cx lk_X9_33 vw_X9 (LTramWiresModel_o h0) (by decide) (c_X9_at h0 hc2) dX9_laysPlan_51 (Nat.le_of_ble_eq_true rfl) ?_
      refine g_iconst (pc := 54) (v := 1) cx dX9_laysPlan_54 (by decide) ?_
      refine g_icmp_ne (pc := 55) (tgt := 84) cx dX9_laysPlan_55 rfl hf (fun hf => ?_) (fun hf => ?_)
      · refine g_aload_n (pc := 58) cx dX9_laysPlan_58 rfl 0 rfl ?_
        refine g_iload_n (pc := 59) cx dX9_laysPlan_59 rfl 2 rfl ?_
        refine g_iconst (pc := 60) (v := 0) cx dX9_laysPlan_60 (by decide) ?_
        obtain ⟨q6, M4, hc5, hf⟩ := obn_some2 hf
        refine g_callVi (pc := 61) [.int x2, .int 0] [] cx lk_X9_33 vw_X9 (LTramWiresModel_o h0) (by decide) (c_X9_at h0 hc5) dX9_laysPlan_61 (Nat.le_of_ble_eq_true rfl) ?_
        refine g_iload_n (pc := 64) cx dX9_laysPlan_64 rfl 1 rfl ?_
        refine g_icmp_eq (pc := 65) (tgt := 78) cx dX9_laysPlan_65 rfl hf (fun hf => ?_) (fun hf => ?_)
        · exact w_X9_laysPlan_78 cx en h0 (fun _ _ hf => ih hf) hf
        · refine g_aload_n (pc := 68) cx dX9_laysPlan_68 rfl 0 rfl ?_
          refine g_iload_n (pc := 69) cx dX9_laysPlan_69 rfl 2 rfl ?_
          refine g_iconst (pc := 70) (v := 1) cx dX9_laysPlan_70 (by decide) ?_
          obtain ⟨q9, M7, hc8, hf⟩ := obn_some2 hf
          refine g_callVi (pc := 71) [.int x2, .int 1] [] cx lk_X9_33 vw_X9 (LTramWiresModel_o h0) (by decide) (c_X9_at h0 hc8) dX9_laysPlan_71 (Nat.le_of_ble_eq_true rfl) ?_
          refine g_iload_n (pc := 74) cx dX9_laysPlan_74 rfl 1 rfl ?_
          refine g_icmp_ne (pc := 75) (tgt := 84) cx dX9_laysPlan_75 rfl hf (fun hf => ?_) (fun hf => ?_)
          · exact w_X9_laysPlan_78 cx en h0 (fun _ _ hf => ih hf) hf
          · exact w_X9_laysPlan_84 cx en h0 (fun _ _ hf => ih hf) hf
      · exact w_X9_laysPlan_84 cx en h0 (fun _ _ hf => ih hf) hf
    · refine g_aload_n (pc := 90) cx dX9_laysPlan_90 rfl 0 rfl ?_
      refine g_iload_n (pc := 91) cx dX9_laysPlan_91 rfl 1 rfl ?_
      refine g_iconst (pc := 92) (v := 3) cx dX9_laysPlan_92 (by decide) ?_
      obtain ⟨q12, M10, hc11, hf⟩ := obn_some2 hf
      refine g_callVi (pc := 93) [.int x1, .int 3] [] cx lk_X9_37 vw_X9 (LTramWiresModel_o h0) (by decide) (c_X9_of h0 hc11) dX9_laysPlan_93 (Nat.le_of_ble_eq_true rfl) ?_
      refine g_if_ne (pc := 96) (tgt := 106) cx dX9_laysPlan_96 rfl hf (fun hf => ?_) (fun hf => ?_)
      · refine g_aload_n (pc := 99) cx dX9_laysPlan_99 rfl 0 rfl ?_
        refine g_bipush (pc := 100) (v := 6) cx dX9_laysPlan_100 (by decide) ?_
        refine g_iload_n (pc := 102) cx dX9_laysPlan_102 rfl 1 rfl ?_
        obtain ⟨q15, M13, hc14, hf⟩ := obn_some2 hf
        refine g_callVv (pc := 103) [.int 6, .int x1] [] cx lk_X9_159 vw_X9 (LTramWiresModel_o h0) (by decide) (c_X9_plans h0 hc14) dX9_laysPlan_103 (Nat.le_of_ble_eq_true rfl) ?_
        refine g_sub [] [] rfl ?_
        exact w_X9_laysPlan_106 cx en h0 hf
      · refine g_sub [] [] rfl ?_
        exact w_X9_laysPlan_106 cx en h0 hf
set_option maxHeartbeats 4000000 in
set_option maxRecDepth 100000 in
theorem w_X9_laysPlan_36 {l : Launch} {w : Wp} {L : Ly} {E : Cx} {a0 : Nat} {x1 : Int32} {R0 : Int32 × Mm} (cx : Ok w L E RX9 cX9_laysPlan 3 1) (en : En w L E none R0) (h0 : LTramWiresModel w L (a0)) {M : Mm} (hf : b_X9_laysPlan_36 a0 M x1 = some R0) : G l w L E M [(0, .ref a0), (1, .int x1)] 36 [] := by
  unfold b_X9_laysPlan_36 at hf
  refine g_iconst (pc := 36) (v := 0) cx dX9_laysPlan_36 (by decide) ?_
  refine g_istore_n (pc := 37) cx [(2, .int 0), (0, .ref a0), (1, .int x1)] dX9_laysPlan_37 rfl (by decide) rfl ?_
  refine g_sub [1, 2, 0] [(0, .ref a0), (1, .int x1), (2, .int 0)] rfl ?_
  exact w_X9_laysPlan_38 cx en h0 FU hf
set_option maxHeartbeats 4000000 in
set_option maxRecDepth 100000 in
theorem w_X9_laysPlan_20 {l : Launch} {w : Wp} {L : Ly} {E : Cx} {a0 : Nat} {x1 : Int32} {R0 : Int32 × Mm} (cx : Ok w L E RX9 cX9_laysPlan 3 1) (en : En w L E none R0) (h0 : LTramWiresModel w L (a0)) {M : Mm} (hf : b_X9_laysPlan_20 a0 M x1 = some R0) : G l w L E M [(0, .ref a0), (1, .int x1)] 20 [] := by
  unfold b_X9_laysPlan_20 at hf
  refine g_aload_n (pc := 20) cx dX9_laysPlan_20 rfl 0 rfl ?_
  refine g_iload_n (pc := 21) cx dX9_laysPlan_21 rfl 1 rfl ?_
  refine g_iconst (pc := 22) (v := 1) cx dX9_laysPlan_22 (by decide) ?_
  obtain ⟨q3, M1, hc2, hf⟩ := obn_some2 hf
  refine g_callVi (pc := 23) [.int x1, .int 1] [] cx lk_X9_37 vw_X9 (LTramWiresModel_o h0) (by decide) (c_X9_of h0 hc2) dX9_laysPlan_23 (Nat.le_of_ble_eq_true rfl) ?_
  refine g_iconst (pc := 26) (v := 2) cx dX9_laysPlan_26 (by decide) ?_
  refine g_icmp_ne (pc := 27) (tgt := 36) cx dX9_laysPlan_27 rfl hf (fun hf => ?_) (fun hf => ?_)
  · refine g_aload_n (pc := 30) cx dX9_laysPlan_30 rfl 0 rfl ?_
    refine g_iconst (pc := 31) (v := 4) cx dX9_laysPlan_31 (by decide) ?_
    refine g_iload_n (pc := 32) cx dX9_laysPlan_32 rfl 1 rfl ?_
    obtain ⟨q6, M4, hc5, hf⟩ := obn_some2 hf
    refine g_callVv (pc := 33) [.int 4, .int x1] [] cx lk_X9_159 vw_X9 (LTramWiresModel_o h0) (by decide) (c_X9_plans h0 hc5) dX9_laysPlan_33 (Nat.le_of_ble_eq_true rfl) ?_
    exact w_X9_laysPlan_36 cx en h0 hf
  · exact w_X9_laysPlan_36 cx en h0 hf
set_option maxHeartbeats 4000000 in
set_option maxRecDepth 100000 in
theorem c_X9_laysPlan {l : Launch} {w : Wp} {L : Ly} {a0 : Nat} {M : Mm} {x1 : Int32} {R0 : Int32 × Mm} (h0 : LTramWiresModel w L (a0)) (hf : f_X9_laysPlan a0 M x1 = some R0) : CT l w L yX9_laysPlan cX9_laysPlan 3 none 1 [.ref a0, .int x1] M R0 := by
  unfold f_X9_laysPlan at hf
  refine CT_of pn_X9 (Nat.le_of_ble_eq_true rfl) (fun E cx en => ?_)
  have cx : Ok w L E RX9 cX9_laysPlan 3 1 := cx
  show G l w L E M [(0, .ref a0), (1, .int x1)] 0 []
  refine g_aload_n (pc := 0) cx dX9_laysPlan_0 rfl 0 rfl ?_
  refine g_iconst (pc := 1) (v := 0) cx dX9_laysPlan_1 (by decide) ?_
  refine fp_X9_156 (pc := 2) cx dX9_laysPlan_2 h0 hf (fun M1 hf => ?_)
  refine g_aload_n (pc := 5) cx dX9_laysPlan_5 rfl 0 rfl ?_
  refine g_iload_n (pc := 6) cx dX9_laysPlan_6 rfl 1 rfl ?_
  refine g_iconst (pc := 7) (v := 2) cx dX9_laysPlan_7 (by decide) ?_
  obtain ⟨q4, M2, hc3, hf⟩ := obn_some2 hf
  refine g_callVi (pc := 8) [.int x1, .int 2] [] cx lk_X9_37 vw_X9 (LTramWiresModel_o h0) (by decide) (c_X9_of h0 hc3) dX9_laysPlan_8 (Nat.le_of_ble_eq_true rfl) ?_
  refine g_if_ne (pc := 11) (tgt := 20) cx dX9_laysPlan_11 rfl hf (fun hf => ?_) (fun hf => ?_)
  · refine g_aload_n (pc := 14) cx dX9_laysPlan_14 rfl 0 rfl ?_
    refine g_iconst (pc := 15) (v := 0) cx dX9_laysPlan_15 (by decide) ?_
    refine g_iload_n (pc := 16) cx dX9_laysPlan_16 rfl 1 rfl ?_
    obtain ⟨q7, M5, hc6, hf⟩ := obn_some2 hf
    refine g_callVv (pc := 17) [.int 0, .int x1] [] cx lk_X9_159 vw_X9 (LTramWiresModel_o h0) (by decide) (c_X9_plans h0 hc6) dX9_laysPlan_17 (Nat.le_of_ble_eq_true rfl) ?_
    exact w_X9_laysPlan_20 cx en h0 hf
  · exact w_X9_laysPlan_20 cx en h0 hf
/-! X9_plan -/
def b_X9_plan_12 (a0 : Nat) (M : Mm) : OR := some ((-1), M)
def b_X9_plan_38 (a0 : Nat) (M : Mm) (s0 : Int32) : OR := some (s0, M)
def f_X9_plan (a0 : Nat) (M : Mm) (x1 x2 : Int32) : OR := obn (f_X9_isSection a0 M x1) fun q3 M1 => (if q3 = 0 then b_X9_plan_12 a0 M1 else if x2 < 0 then b_X9_plan_12 a0 M1 else obn (f_X9_laysPlan a0 M1 x1) fun _ M4 => (if x2 < (M4 a0 7) then ckd x2 19 (b_X9_plan_38 a0 M4 (M4 (a0 + 5) (ix x2))) else b_X9_plan_38 a0 M4 (-4)))
set_option maxHeartbeats 4000000 in
set_option maxRecDepth 100000 in
theorem w_X9_plan_12 {l : Launch} {w : Wp} {L : Ly} {E : Cx} {a0 : Nat} {R0 : Int32 × Mm} (cx : Ok w L E RX9 cX9_plan 3 2) (en : En w L E (some .int) R0) (h0 : LTramWiresModel w L (a0)) {M : Mm} (hf : b_X9_plan_12 a0 M = some R0) : G l w L E M [] 12 [] := by
  unfold b_X9_plan_12 at hf
  refine g_iconst (pc := 12) (v := (-1)) cx dX9_plan_12 (by decide) ?_
  exact g_iret (pc := 13) cx en dX9_plan_13 rfl hf
set_option maxHeartbeats 4000000 in
set_option maxRecDepth 100000 in
theorem w_X9_plan_38 {l : Launch} {w : Wp} {L : Ly} {E : Cx} {a0 : Nat} {s0 : Int32} {R0 : Int32 × Mm} (cx : Ok w L E RX9 cX9_plan 3 2) (en : En w L E (some .int) R0) (h0 : LTramWiresModel w L (a0)) {M : Mm} (hf : b_X9_plan_38 a0 M s0 = some R0) : G l w L E M [] 38 [.int s0] := by
  unfold b_X9_plan_38 at hf
  exact g_iret (pc := 38) cx en dX9_plan_38 rfl hf
set_option maxHeartbeats 4000000 in
set_option maxRecDepth 100000 in
theorem c_X9_plan {l : Launch} {w : Wp} {L : Ly} {a0 : Nat} {M : Mm} {x1 x2 : Int32} {R0 : Int32 × Mm} (h0 : LTramWiresModel w L (a0)) (hf : f_X9_plan a0 M x1 x2 = some R0) : CT l w L yX9_plan cX9_plan 3 (some .int) 2 [.ref a0, .int x1, .int x2] M R0 := by
  unfold f_X9_plan at hf
  refine CT_of pn_X9 (Nat.le_of_ble_eq_true rfl) (fun E cx en => ?_)
  have cx : Ok w L E RX9 cX9_plan 3 2 := cx
  show G l w L E M [(0, .ref a0), (1, .int x1), (2, .int x2)] 0 []
  refine g_aload_n (pc := 0) cx dX9_plan_0 rfl 0 rfl ?_
  refine g_iload_n (pc := 1) cx dX9_plan_1 rfl 1 rfl ?_
  obtain ⟨q3, M1, hc2, hf⟩ := obn_some2 hf
  refine g_callVi (pc := 2) [.int x1] [] cx lk_X9_86 vw_X9 (LTramWiresModel_o h0) (by decide) (c_X9_isSection h0 hc2) dX9_plan_2 (Nat.le_of_ble_eq_true rfl) ?_
  refine g_if_eq (pc := 5) (tgt := 12) cx dX9_plan_5 rfl hf (fun hf => ?_) (fun hf => ?_)
  · refine g_sub [] [] rfl ?_
    exact w_X9_plan_12 cx en h0 hf
  · refine g_iload_n (pc := 8) cx dX9_plan_8 rfl 2 rfl ?_
    refine g_if_ge (pc := 9) (tgt := 14) cx dX9_plan_9 rfl hf (fun hf => ?_) (fun hf => ?_)
    · refine g_sub [] [] rfl ?_
      exact w_X9_plan_12 cx en h0 hf
    · refine g_aload_n (pc := 14) cx dX9_plan_14 rfl 0 rfl ?_
      refine g_iload_n (pc := 15) cx dX9_plan_15 rfl 1 rfl ?_
      obtain ⟨q6, M4, hc5, hf⟩ := obn_some2 hf
      refine g_callVv (pc := 16) [.int x1] [] cx lk_X9_162 vw_X9 (LTramWiresModel_o h0) (by decide) (c_X9_laysPlan h0 hc5) dX9_plan_16 (Nat.le_of_ble_eq_true rfl) ?_
      refine g_iload_n (pc := 19) cx dX9_plan_19 rfl 2 rfl ?_
      refine g_aload_n (pc := 20) cx dX9_plan_20 rfl 0 rfl ?_
      refine fg_X9_156 (pc := 21) cx dX9_plan_21 h0 ?_
      refine g_icmp_ge (pc := 24) (tgt := 36) cx dX9_plan_24 rfl hf (fun hf => ?_) (fun hf => ?_)
      · refine g_aload_n (pc := 27) cx dX9_plan_27 rfl 0 rfl ?_
        refine fg_X9_22 (pc := 28) cx dX9_plan_28 h0 ?_
        refine g_iload_n (pc := 31) cx dX9_plan_31 rfl 2 rfl ?_
        refine g_iald (pc := 32) cx (LTramWiresModel_row h0) dX9_plan_32 hf (fun hf => ?_)
        refine g_goto (pc := 33) (tgt := 38) cx dX9_plan_33 rfl ?_
        refine g_sub [] [] rfl ?_
        exact w_X9_plan_38 cx en h0 hf
      · refine g_bipush (pc := 36) (v := (-4)) cx dX9_plan_36 (by decide) ?_
        refine g_sub [] [] rfl ?_
        exact w_X9_plan_38 cx en h0 hf
/-! X9_canPlan -/
def b_X9_canPlan_82 (a0 : Nat) (M : Mm) (x2 : Int32) : OR := obn (f_X9_bringsBack a0 M) fun _ M1 => (some (x2, M1))
def l_X9_canPlan_21 (a0 : Nat) : Nat → Mm → Int32 → OR
  | 0, _, _ => none
  | k + 1, M, x2 => if x2 < (M a0 7) then ckd x2 19 (ckd x2 19 (obn (f_X9_refuses a0 M ((M (a0 + 5) (ix x2)) / 100) (jrem (M (a0 + 5) (ix x2)) 100)) fun q3 M1 => (if q3 = 0 then ckd x2 19 (ckd x2 19 (obn (f_X9_makes a0 M1 ((M1 (a0 + 5) (ix x2)) / 100) (jrem (M1 (a0 + 5) (ix x2)) 100)) fun _ M4 => (l_X9_canPlan_21 a0 k M4 (x2 + 1)))) else b_X9_canPlan_82 a0 M1 x2))) else b_X9_canPlan_82 a0 M x2
def f_X9_canPlan (a0 : Nat) (M : Mm) (x1 : Int32) : OR := obn (f_X9_isSection a0 M x1) fun q3 M1 => (if q3 = 0 then some ((-1), M1) else obn (f_X9_laysPlan a0 M1 x1) fun _ M4 => (obn (f_X9_laysAside a0 M4) fun _ M7 => (l_X9_canPlan_21 a0 FU M7 0)))
set_option maxHeartbeats 4000000 in
set_option maxRecDepth 100000 in
theorem w_X9_canPlan_82 {l : Launch} {w : Wp} {L : Ly} {E : Cx} {a0 : Nat} {x2 : Int32} {R0 : Int32 × Mm} (cx : Ok w L E RX9 cX9_canPlan 3 6) (en : En w L E (some .int) R0) (h0 : LTramWiresModel w L (a0)) {M : Mm} (hf : b_X9_canPlan_82 a0 M x2 = some R0) : G l w L E M [(0, .ref a0), (2, .int x2)] 82 [] := by
  unfold b_X9_canPlan_82 at hf
  refine g_aload_n (pc := 82) cx dX9_canPlan_82 rfl 0 rfl ?_
  obtain ⟨q3, M1, hc2, hf⟩ := obn_some2 hf
  refine g_callVv (pc := 83) [] [] cx lk_X9_169 vw_X9 (LTramWiresModel_o h0) (by decide) (c_X9_bringsBack h0 hc2) dX9_canPlan_83 (Nat.le_of_ble_eq_true rfl) ?_
  refine g_iload_n (pc := 86) cx dX9_canPlan_86 rfl 1 rfl ?_
  exact g_iret (pc := 87) cx en dX9_canPlan_87 rfl hf
set_option maxHeartbeats 4000000 in
set_option maxRecDepth 100000 in
theorem w_X9_canPlan_21 {l : Launch} {w : Wp} {L : Ly} {E : Cx} {a0 : Nat} {R0 : Int32 × Mm} (cx : Ok w L E RX9 cX9_canPlan 3 6) (en : En w L E (some .int) R0) (h0 : LTramWiresModel w L (a0)) : ∀ (k : Nat) {M : Mm} {x2 : Int32}, l_X9_canPlan_21 a0 k M x2 = some R0 → G l w L E M [(0, .ref a0), (2, .int x2)] 21 [] := by
  intro k
  induction k with
  | zero =>
    intro M x2 hf
    exact absurd hf (by simp [l_X9_canPlan_21])
  | succ k ih =>
    intro M x2 hf
    unfold l_X9_canPlan_21 at hf
    refine g_iload_n (pc := 21) cx dX9_canPlan_21 rfl 1 rfl ?_
    refine g_aload_n (pc := 22) cx dX9_canPlan_22 rfl 0 rfl ?_
    refine fg_X9_156 (pc := 23) cx dX9_canPlan_23 h0 ?_
    refine g_icmp_ge (pc := 26) (tgt := 82) cx dX9_canPlan_26 rfl hf (fun hf => ?_) (fun hf => ?_)
    · refine g_aload_n (pc := 29) cx dX9_canPlan_29 rfl 0 rfl ?_
      refine g_aload_n (pc := 30) cx dX9_canPlan_30 rfl 0 rfl ?_
      refine fg_X9_22 (pc := 31) cx dX9_canPlan_31 h0 ?_
      refine g_iload_n (pc := 34) cx dX9_canPlan_34 rfl 1 rfl ?_
      refine g_iald (pc := 35) cx (LTramWiresModel_row h0) dX9_canPlan_35 hf (fun hf => ?_)
      refine g_bipush (pc := 36) (v := 100) cx dX9_canPlan_36 (by decide) ?_
      refine g_idiv (pc := 38) cx dX9_canPlan_38 (by decide) ?_
      refine g_aload_n (pc := 39) cx dX9_canPlan_39 rfl 0 rfl ?_
      refine fg_X9_22 (pc := 40) cx dX9_canPlan_40 h0 ?_
      refine g_iload_n (pc := 43) cx dX9_canPlan_43 rfl 1 rfl ?_
      refine g_iald (pc := 44) cx (LTramWiresModel_row h0) dX9_canPlan_44 hf (fun hf => ?_)
      refine g_bipush (pc := 45) (v := 100) cx dX9_canPlan_45 (by decide) ?_
      refine g_jrem (pc := 47) cx dX9_canPlan_47 (by decide) ?_
      obtain ⟨q3, M1, hc2, hf⟩ := obn_some2 hf
      refine g_callVi (pc := 48) [.int ((M (a0 + 5) (ix x2)) / 100), .int (jrem (M (a0 + 5) (ix x2)) 100)] [] cx lk_X9_147 vw_X9 (LTramWiresModel_o h0) (by decide) (c_X9_refuses h0 hc2) dX9_canPlan_48 (Nat.le_of_ble_eq_true rfl) ?_
      refine g_if_ne (pc := 51) (tgt := 82) cx dX9_canPlan_51 rfl hf (fun hf => ?_) (fun hf => ?_)
      · refine g_aload_n (pc := 54) cx dX9_canPlan_54 rfl 0 rfl ?_
        refine g_aload_n (pc := 55) cx dX9_canPlan_55 rfl 0 rfl ?_
        refine fg_X9_22 (pc := 56) cx dX9_canPlan_56 h0 ?_
        refine g_iload_n (pc := 59) cx dX9_canPlan_59 rfl 1 rfl ?_
        refine g_iald (pc := 60) cx (LTramWiresModel_row h0) dX9_canPlan_60 hf (fun hf => ?_)
        refine g_bipush (pc := 61) (v := 100) cx dX9_canPlan_61 (by decide) ?_
        refine g_idiv (pc := 63) cx dX9_canPlan_63 (by decide) ?_
        refine g_aload_n (pc := 64) cx dX9_canPlan_64 rfl 0 rfl ?_
        refine fg_X9_22 (pc := 65) cx dX9_canPlan_65 h0 ?_
        refine g_iload_n (pc := 68) cx dX9_canPlan_68 rfl 1 rfl ?_
        refine g_iald (pc := 69) cx (LTramWiresModel_row h0) dX9_canPlan_69 hf (fun hf => ?_)
        refine g_bipush (pc := 70) (v := 100) cx dX9_canPlan_70 (by decide) ?_
        refine g_jrem (pc := 72) cx dX9_canPlan_72 (by decide) ?_
        obtain ⟨q6, M4, hc5, hf⟩ := obn_some2 hf
        refine g_callVv (pc := 73) [.int ((M1 (a0 + 5) (ix x2)) / 100), .int (jrem (M1 (a0 + 5) (ix x2)) 100)] [] cx lk_X9_153 vw_X9 (LTramWiresModel_o h0) (by decide) (c_X9_makes h0 hc5) dX9_canPlan_73 (Nat.le_of_ble_eq_true rfl) ?_
        refine g_iinc (pc := 76) cx [(2, .int (x2 + 1)), (0, .ref a0)] dX9_canPlan_76 1 rfl rfl (by decide) rfl ?_
        refine g_goto (pc := 79) (tgt := 21) cx dX9_canPlan_79 rfl ?_
        refine g_sub [1, 0] [(0, .ref a0), (2, .int (x2 + 1))] rfl ?_
        exact ih hf
      · exact w_X9_canPlan_82 cx en h0 hf
    · exact w_X9_canPlan_82 cx en h0 hf
set_option maxHeartbeats 4000000 in
set_option maxRecDepth 100000 in
theorem c_X9_canPlan {l : Launch} {w : Wp} {L : Ly} {a0 : Nat} {M : Mm} {x1 : Int32} {R0 : Int32 × Mm} (h0 : LTramWiresModel w L (a0)) (hf : f_X9_canPlan a0 M x1 = some R0) : CT l w L yX9_canPlan cX9_canPlan 3 (some .int) 6 [.ref a0, .int x1] M R0 := by
  unfold f_X9_canPlan at hf
  refine CT_of pn_X9 (Nat.le_of_ble_eq_true rfl) (fun E cx en => ?_)
  have cx : Ok w L E RX9 cX9_canPlan 3 6 := cx
  show G l w L E M [(0, .ref a0), (1, .int x1)] 0 []
  refine g_aload_n (pc := 0) cx dX9_canPlan_0 rfl 0 rfl ?_
  refine g_iload_n (pc := 1) cx dX9_canPlan_1 rfl 1 rfl ?_
  obtain ⟨q3, M1, hc2, hf⟩ := obn_some2 hf
  refine g_callVi (pc := 2) [.int x1] [] cx lk_X9_86 vw_X9 (LTramWiresModel_o h0) (by decide) (c_X9_isSection h0 hc2) dX9_canPlan_2 (Nat.le_of_ble_eq_true rfl) ?_
  refine g_if_ne (pc := 5) (tgt := 10) cx dX9_canPlan_5 rfl hf (fun hf => ?_) (fun hf => ?_)
  · refine g_iconst (pc := 8) (v := (-1)) cx dX9_canPlan_8 (by decide) ?_
    exact g_iret (pc := 9) cx en dX9_canPlan_9 rfl hf
  · refine g_aload_n (pc := 10) cx dX9_canPlan_10 rfl 0 rfl ?_
    refine g_iload_n (pc := 11) cx dX9_canPlan_11 rfl 1 rfl ?_
    obtain ⟨q6, M4, hc5, hf⟩ := obn_some2 hf
    refine g_callVv (pc := 12) [.int x1] [] cx lk_X9_162 vw_X9 (LTramWiresModel_o h0) (by decide) (c_X9_laysPlan h0 hc5) dX9_canPlan_12 (Nat.le_of_ble_eq_true rfl) ?_
    refine g_aload_n (pc := 15) cx dX9_canPlan_15 rfl 0 rfl ?_
    obtain ⟨q9, M7, hc8, hf⟩ := obn_some2 hf
    refine g_callVv (pc := 16) [] [] cx lk_X9_166 vw_X9 (LTramWiresModel_o h0) (by decide) (c_X9_laysAside h0 hc8) dX9_canPlan_16 (Nat.le_of_ble_eq_true rfl) ?_
    refine g_iconst (pc := 19) (v := 0) cx dX9_canPlan_19 (by decide) ?_
    refine g_istore_n (pc := 20) cx [(2, .int 0), (0, .ref a0), (1, .int x1)] dX9_canPlan_20 rfl (by decide) rfl ?_
    refine g_sub [1, 0] [(0, .ref a0), (2, .int 0)] rfl ?_
    exact w_X9_canPlan_21 cx en h0 FU hf
/-! X9_enter -/
def b_X9_enter_33 (a0 : Nat) (M : Mm) : OR := some ((-1), M)
def b_X9_enter_54 (a0 : Nat) (M : Mm) : OR := some ((-2), M)
def f_X9_enter (a0 : Nat) (M : Mm) (x1 x2 x3 : Int32) : OR := obn (f_X9_isSection a0 M x1) fun q3 M1 => (if q3 = 0 then b_X9_enter_33 a0 M1 else obn (f_X9_in M1 x2 0 50) fun q6 M4 => (if q6 = 0 then b_X9_enter_33 a0 M4 else ckd 3 233 (obn (f_X9_in M4 x3 (M4 (a0 + 1) (ix 3)) 100000) fun q9 M7 => (if q9 = 0 then b_X9_enter_33 a0 M7 else obn (f_X9_of a0 M7 x1 3) fun q12 M10 => (if q12 = 0 then b_X9_enter_54 a0 M10 else obn (f_X9_of a0 M10 x1 4) fun q15 M13 => (if q15 = 1 then b_X9_enter_54 a0 M13 else obn (f_X9_records a0 M13) fun _ M16 => (obn (f_X9_put a0 M16 x1 4 1) fun _ M19 => (obn (f_X9_put a0 M19 x1 5 x2) fun _ M22 => (obn (f_X9_put a0 M22 x1 6 x3) fun _ M25 => (obn (f_X9_with a0 M25 4) fun q30 M28 => (obn (f_X9_bits M28 q30) fun q33 M31 => (some (q33, M31)))))))))))))
set_option maxHeartbeats 4000000 in
set_option maxRecDepth 100000 in
theorem w_X9_enter_33 {l : Launch} {w : Wp} {L : Ly} {E : Cx} {a0 : Nat} {R0 : Int32 × Mm} (cx : Ok w L E RX9 cX9_enter 4 2) (en : En w L E (some .int) R0) (h0 : LTramWiresModel w L (a0)) {M : Mm} (hf : b_X9_enter_33 a0 M = some R0) : G l w L E M [] 33 [] := by
  unfold b_X9_enter_33 at hf
  refine g_iconst (pc := 33) (v := (-1)) cx dX9_enter_33 (by decide) ?_
  exact g_iret (pc := 34) cx en dX9_enter_34 rfl hf
set_option maxHeartbeats 4000000 in
set_option maxRecDepth 100000 in
theorem w_X9_enter_54 {l : Launch} {w : Wp} {L : Ly} {E : Cx} {a0 : Nat} {R0 : Int32 × Mm} (cx : Ok w L E RX9 cX9_enter 4 2) (en : En w L E (some .int) R0) (h0 : LTramWiresModel w L (a0)) {M : Mm} (hf : b_X9_enter_54 a0 M = some R0) : G l w L E M [] 54 [] := by
  unfold b_X9_enter_54 at hf
  refine g_bipush (pc := 54) (v := (-2)) cx dX9_enter_54 (by decide) ?_
  exact g_iret (pc := 56) cx en dX9_enter_56 rfl hf
set_option maxHeartbeats 4000000 in
set_option maxRecDepth 100000 in
theorem c_X9_enter {l : Launch} {w : Wp} {L : Ly} {a0 : Nat} {M : Mm} {x1 x2 x3 : Int32} {R0 : Int32 × Mm} (h0 : LTramWiresModel w L (a0)) (hf : f_X9_enter a0 M x1 x2 x3 = some R0) : CT l w L yX9_enter cX9_enter 4 (some .int) 2 [.ref a0, .int x1, .int x2, .int x3] M R0 := by
  unfold f_X9_enter at hf
  refine CT_of pn_X9 (Nat.le_of_ble_eq_true rfl) (fun E cx en => ?_)
  have cx : Ok w L E RX9 cX9_enter 4 2 := cx
  show G l w L E M [(0, .ref a0), (1, .int x1), (2, .int x2), (3, .int x3)] 0 []
  refine g_aload_n (pc := 0) cx dX9_enter_0 rfl 0 rfl ?_
  refine g_iload_n (pc := 1) cx dX9_enter_1 rfl 1 rfl ?_
  obtain ⟨q3, M1, hc2, hf⟩ := obn_some2 hf
  refine g_callVi (pc := 2) [.int x1] [] cx lk_X9_86 vw_X9 (LTramWiresModel_o h0) (by decide) (c_X9_isSection h0 hc2) dX9_enter_2 (Nat.le_of_ble_eq_true rfl) ?_
  refine g_if_eq (pc := 5) (tgt := 33) cx dX9_enter_5 rfl hf (fun hf => ?_) (fun hf => ?_)
  · refine g_sub [] [] rfl ?_
    exact w_X9_enter_33 cx en h0 hf
  · refine g_iload_n (pc := 8) cx dX9_enter_8 rfl 2 rfl ?_
    refine g_iconst (pc := 9) (v := 0) cx dX9_enter_9 (by decide) ?_
    refine g_bipush (pc := 10) (v := 50) cx dX9_enter_10 (by decide) ?_
    obtain ⟨q6, M4, hc5, hf⟩ := obn_some2 hf
    refine g_callSi (pc := 12) [.int x2, .int 0, .int 50] [] cx lk_X9_25 (by decide) (c_X9_in hc5) dX9_enter_12 (Nat.le_of_ble_eq_true rfl) ?_
    refine g_if_eq (pc := 15) (tgt := 33) cx dX9_enter_15 rfl hf (fun hf => ?_) (fun hf => ?_)
    · refine g_sub [] [] rfl ?_
      exact w_X9_enter_33 cx en h0 hf
    · refine g_iload_n (pc := 18) cx dX9_enter_18 rfl 3 rfl ?_
      refine g_aload_n (pc := 19) cx dX9_enter_19 rfl 0 rfl ?_
      refine fg_X9_7 (pc := 20) cx dX9_enter_20 h0 ?_
      refine g_iconst (pc := 23) (v := 3) cx dX9_enter_23 (by decide) ?_
      refine g_iald (pc := 24) cx (LTramWiresModel_st h0) dX9_enter_24 hf (fun hf => ?_)
      refine g_ldc (pc := 25) cx tk_X9_172 dX9_enter_25 ?_
      obtain ⟨q9, M7, hc8, hf⟩ := obn_some2 hf
      refine g_callSi (pc := 27) [.int x3, .int (M4 (a0 + 1) (ix 3)), .int 100000] [] cx lk_X9_25 (by decide) (c_X9_in hc8) dX9_enter_27 (Nat.le_of_ble_eq_true rfl) ?_
      refine g_if_ne (pc := 30) (tgt := 35) cx dX9_enter_30 rfl hf (fun hf => ?_) (fun hf => ?_)
      · refine g_sub [] [] rfl ?_
        exact w_X9_enter_33 cx en h0 hf
      · refine g_aload_n (pc := 35) cx dX9_enter_35 rfl 0 rfl ?_
        refine g_iload_n (pc := 36) cx dX9_enter_36 rfl 1 rfl ?_
        refine g_iconst (pc := 37) (v := 3) cx dX9_enter_37 (by decide) ?_
        obtain ⟨q12, M10, hc11, hf⟩ := obn_some2 hf
        refine g_callVi (pc := 38) [.int x1, .int 3] [] cx lk_X9_37 vw_X9 (LTramWiresModel_o h0) (by decide) (c_X9_of h0 hc11) dX9_enter_38 (Nat.le_of_ble_eq_true rfl) ?_
        refine g_if_eq (pc := 41) (tgt := 54) cx dX9_enter_41 rfl hf (fun hf => ?_) (fun hf => ?_)
        · refine g_sub [] [] rfl ?_
          exact w_X9_enter_54 cx en h0 hf
        · refine g_aload_n (pc := 44) cx dX9_enter_44 rfl 0 rfl ?_
          refine g_iload_n (pc := 45) cx dX9_enter_45 rfl 1 rfl ?_
          refine g_iconst (pc := 46) (v := 4) cx dX9_enter_46 (by decide) ?_
          obtain ⟨q15, M13, hc14, hf⟩ := obn_some2 hf
          refine g_callVi (pc := 47) [.int x1, .int 4] [] cx lk_X9_37 vw_X9 (LTramWiresModel_o h0) (by decide) (c_X9_of h0 hc14) dX9_enter_47 (Nat.le_of_ble_eq_true rfl) ?_
          refine g_iconst (pc := 50) (v := 1) cx dX9_enter_50 (by decide) ?_
          refine g_icmp_ne (pc := 51) (tgt := 57) cx dX9_enter_51 rfl hf (fun hf => ?_) (fun hf => ?_)
          · refine g_sub [] [] rfl ?_
            exact w_X9_enter_54 cx en h0 hf
          · refine g_aload_n (pc := 57) cx dX9_enter_57 rfl 0 rfl ?_
            obtain ⟨q18, M16, hc17, hf⟩ := obn_some2 hf
            refine g_callVv (pc := 58) [] [] cx lk_X9_73 vw_X9 (LTramWiresModel_o h0) (by decide) (c_X9_records h0 hc17) dX9_enter_58 (Nat.le_of_ble_eq_true rfl) ?_
            refine g_aload_n (pc := 61) cx dX9_enter_61 rfl 0 rfl ?_
            refine g_iload_n (pc := 62) cx dX9_enter_62 rfl 1 rfl ?_
            refine g_iconst (pc := 63) (v := 4) cx dX9_enter_63 (by decide) ?_
            refine g_iconst (pc := 64) (v := 1) cx dX9_enter_64 (by decide) ?_
            obtain ⟨q21, M19, hc20, hf⟩ := obn_some2 hf
            refine g_callVv (pc := 65) [.int x1, .int 4, .int 1] [] cx lk_X9_76 vw_X9 (LTramWiresModel_o h0) (by decide) (c_X9_put h0 hc20) dX9_enter_65 (Nat.le_of_ble_eq_true rfl) ?_
            refine g_aload_n (pc := 68) cx dX9_enter_68 rfl 0 rfl ?_
            refine g_iload_n (pc := 69) cx dX9_enter_69 rfl 1 rfl ?_
            refine g_iconst (pc := 70) (v := 5) cx dX9_enter_70 (by decide) ?_
            refine g_iload_n (pc := 71) cx dX9_enter_71 rfl 2 rfl ?_
            obtain ⟨q24, M22, hc23, hf⟩ := obn_some2 hf
            refine g_callVv (pc := 72) [.int x1, .int 5, .int x2] [] cx lk_X9_76 vw_X9 (LTramWiresModel_o h0) (by decide) (c_X9_put h0 hc23) dX9_enter_72 (Nat.le_of_ble_eq_true rfl) ?_
            refine g_aload_n (pc := 75) cx dX9_enter_75 rfl 0 rfl ?_
            refine g_iload_n (pc := 76) cx dX9_enter_76 rfl 1 rfl ?_
            refine g_bipush (pc := 77) (v := 6) cx dX9_enter_77 (by decide) ?_
            refine g_iload_n (pc := 79) cx dX9_enter_79 rfl 3 rfl ?_
            obtain ⟨q27, M25, hc26, hf⟩ := obn_some2 hf
            refine g_callVv (pc := 80) [.int x1, .int 6, .int x3] [] cx lk_X9_76 vw_X9 (LTramWiresModel_o h0) (by decide) (c_X9_put h0 hc26) dX9_enter_80 (Nat.le_of_ble_eq_true rfl) ?_
            refine g_aload_n (pc := 83) cx dX9_enter_83 rfl 0 rfl ?_
            refine g_iconst (pc := 84) (v := 4) cx dX9_enter_84 (by decide) ?_
            obtain ⟨q30, M28, hc29, hf⟩ := obn_some2 hf
            refine g_callVi (pc := 85) [.int 4] [] cx lk_X9_40 vw_X9 (LTramWiresModel_o h0) (by decide) (c_X9_with h0 hc29) dX9_enter_85 (Nat.le_of_ble_eq_true rfl) ?_
            obtain ⟨q33, M31, hc32, hf⟩ := obn_some2 hf
            refine g_callSi (pc := 88) [.int q30] [] cx lk_X9_110 (by decide) (c_X9_bits hc32) dX9_enter_88 (Nat.le_of_ble_eq_true rfl) ?_
            exact g_iret (pc := 91) cx en dX9_enter_91 rfl hf
/-! X9_leave -/
def b_X9_leave_18 (a0 : Nat) (M : Mm) : OR := some ((-1), M)
def b_X9_leave_39 (a0 : Nat) (M : Mm) : OR := some ((-2), M)
def b_X9_leave_103 (a0 : Nat) (M : Mm) (x1 s0 : Int32) : OR := ckd 6 233 (ckd 6 233 (bnd (mst M (a0 + 1) (ix 6) ((M (a0 + 1) (ix 6)) + s0)) fun M1 => obn (f_X9_put a0 M1 x1 4 0) fun _ M2 => (obn (f_X9_put a0 M2 x1 5 0) fun _ M5 => (obn (f_X9_put a0 M5 x1 6 0) fun _ M8 => (some (s0, M8))))))
def f_X9_leave (a0 : Nat) (M : Mm) (x1 x2 : Int32) : OR := obn (f_X9_isSection a0 M x1) fun q3 M1 => (if q3 = 0 then b_X9_leave_18 a0 M1 else obn (f_X9_in M1 x2 0 50) fun q6 M4 => (if q6 = 0 then b_X9_leave_18 a0 M4 else obn (f_X9_of a0 M4 x1 4) fun q9 M7 => (if q9 = 0 then b_X9_leave_39 a0 M7 else obn (f_X9_of a0 M7 x1 5) fun q12 M10 => (if q12 < x2 then b_X9_leave_39 a0 M10 else obn (f_X9_records a0 M10) fun _ M13 => (obn (f_X9_of a0 M13 x1 7) fun q18 M16 => (obn (f_X9_of a0 M16 x1 5) fun q21 M19 => (obn (f_X9_put a0 M19 x1 7 ((q18 + q21) - x2)) fun _ M22 => (ckd 3 233 (obn (f_X9_of a0 M22 x1 6) fun q27 M25 => (if q27 < (M22 (a0 + 1) (ix 3)) then ckd 3 233 (obn (f_X9_of a0 M25 x1 6) fun q30 M28 => (b_X9_leave_103 a0 M28 x1 ((M25 (a0 + 1) (ix 3)) - q30))) else b_X9_leave_103 a0 M25 x1 0))))))))))
set_option maxHeartbeats 4000000 in
set_option maxRecDepth 100000 in
theorem w_X9_leave_18 {l : Launch} {w : Wp} {L : Ly} {E : Cx} {a0 : Nat} {R0 : Int32 × Mm} (cx : Ok w L E RX9 cX9_leave 4 2) (en : En w L E (some .int) R0) (h0 : LTramWiresModel w L (a0)) {M : Mm} (hf : b_X9_leave_18 a0 M = some R0) : G l w L E M [] 18 [] := by
  unfold b_X9_leave_18 at hf
  refine g_iconst (pc := 18) (v := (-1)) cx dX9_leave_18 (by decide) ?_
  exact g_iret (pc := 19) cx en dX9_leave_19 rfl hf
set_option maxHeartbeats 4000000 in
set_option maxRecDepth 100000 in
theorem w_X9_leave_39 {l : Launch} {w : Wp} {L : Ly} {E : Cx} {a0 : Nat} {R0 : Int32 × Mm} (cx : Ok w L E RX9 cX9_leave 4 2) (en : En w L E (some .int) R0) (h0 : LTramWiresModel w L (a0)) {M : Mm} (hf : b_X9_leave_39 a0 M = some R0) : G l w L E M [] 39 [] := by
  unfold b_X9_leave_39 at hf
  refine g_bipush (pc := 39) (v := (-2)) cx dX9_leave_39 (by decide) ?_
  exact g_iret (pc := 41) cx en dX9_leave_41 rfl hf
set_option maxHeartbeats 4000000 in
set_option maxRecDepth 100000 in
theorem w_X9_leave_103 {l : Launch} {w : Wp} {L : Ly} {E : Cx} {a0 : Nat} {x1 s0 : Int32} {R0 : Int32 × Mm} (cx : Ok w L E RX9 cX9_leave 4 2) (en : En w L E (some .int) R0) (h0 : LTramWiresModel w L (a0)) {M : Mm} (hf : b_X9_leave_103 a0 M x1 s0 = some R0) : G l w L E M [(0, .ref a0), (1, .int x1)] 103 [.int s0] := by
  unfold b_X9_leave_103 at hf
  refine g_istore_n (pc := 103) cx [(3, .int s0), (0, .ref a0), (1, .int x1)] dX9_leave_103 rfl (by decide) rfl ?_
  refine g_aload_n (pc := 104) cx dX9_leave_104 rfl 1 rfl ?_
  refine fg_X9_7 (pc := 105) cx dX9_leave_105 h0 ?_
  refine g_bipush (pc := 108) (v := 6) cx dX9_leave_108 (by decide) ?_
  refine g_dup2 (pc := 110) cx dX9_leave_110 rfl rfl ?_
  refine g_iald (pc := 111) cx (LTramWiresModel_st h0) dX9_leave_111 hf (fun hf => ?_)
  refine g_iload_n (pc := 112) cx dX9_leave_112 rfl 0 rfl ?_
  refine g_iadd (pc := 113) cx dX9_leave_113 ?_
  refine g_iast (pc := 114) cx (LTramWiresModel_st h0) dX9_leave_114 hf (fun M1 hf => ?_)
  refine g_aload_n (pc := 115) cx dX9_leave_115 rfl 1 rfl ?_
  refine g_iload_n (pc := 116) cx dX9_leave_116 rfl 2 rfl ?_
  refine g_iconst (pc := 117) (v := 4) cx dX9_leave_117 (by decide) ?_
  refine g_iconst (pc := 118) (v := 0) cx dX9_leave_118 (by decide) ?_
  obtain ⟨q4, M2, hc3, hf⟩ := obn_some2 hf
  refine g_callVv (pc := 119) [.int x1, .int 4, .int 0] [] cx lk_X9_76 vw_X9 (LTramWiresModel_o h0) (by decide) (c_X9_put h0 hc3) dX9_leave_119 (Nat.le_of_ble_eq_true rfl) ?_
  refine g_aload_n (pc := 122) cx dX9_leave_122 rfl 1 rfl ?_
  refine g_iload_n (pc := 123) cx dX9_leave_123 rfl 2 rfl ?_
  refine g_iconst (pc := 124) (v := 5) cx dX9_leave_124 (by decide) ?_
  refine g_iconst (pc := 125) (v := 0) cx dX9_leave_125 (by decide) ?_
  obtain ⟨q7, M5, hc6, hf⟩ := obn_some2 hf
  refine g_callVv (pc := 126) [.int x1, .int 5, .int 0] [] cx lk_X9_76 vw_X9 (LTramWiresModel_o h0) (by decide) (c_X9_put h0 hc6) dX9_leave_126 (Nat.le_of_ble_eq_true rfl) ?_
  refine g_aload_n (pc := 129) cx dX9_leave_129 rfl 1 rfl ?_
  refine g_iload_n (pc := 130) cx dX9_leave_130 rfl 2 rfl ?_
  refine g_bipush (pc := 131) (v := 6) cx dX9_leave_131 (by decide) ?_
  refine g_iconst (pc := 133) (v := 0) cx dX9_leave_133 (by decide) ?_
  obtain ⟨q10, M8, hc9, hf⟩ := obn_some2 hf
  refine g_callVv (pc := 134) [.int x1, .int 6, .int 0] [] cx lk_X9_76 vw_X9 (LTramWiresModel_o h0) (by decide) (c_X9_put h0 hc9) dX9_leave_134 (Nat.le_of_ble_eq_true rfl) ?_
  refine g_iload_n (pc := 137) cx dX9_leave_137 rfl 0 rfl ?_
  exact g_iret (pc := 138) cx en dX9_leave_138 rfl hf
set_option maxHeartbeats 4000000 in
set_option maxRecDepth 100000 in
theorem c_X9_leave {l : Launch} {w : Wp} {L : Ly} {a0 : Nat} {M : Mm} {x1 x2 : Int32} {R0 : Int32 × Mm} (h0 : LTramWiresModel w L (a0)) (hf : f_X9_leave a0 M x1 x2 = some R0) : CT l w L yX9_leave cX9_leave 4 (some .int) 2 [.ref a0, .int x1, .int x2] M R0 := by
  unfold f_X9_leave at hf
  refine CT_of pn_X9 (Nat.le_of_ble_eq_true rfl) (fun E cx en => ?_)
  have cx : Ok w L E RX9 cX9_leave 4 2 := cx
  show G l w L E M [(0, .ref a0), (1, .int x1), (2, .int x2)] 0 []
  refine g_aload_n (pc := 0) cx dX9_leave_0 rfl 0 rfl ?_
  refine g_iload_n (pc := 1) cx dX9_leave_1 rfl 1 rfl ?_
  obtain ⟨q3, M1, hc2, hf⟩ := obn_some2 hf
  refine g_callVi (pc := 2) [.int x1] [] cx lk_X9_86 vw_X9 (LTramWiresModel_o h0) (by decide) (c_X9_isSection h0 hc2) dX9_leave_2 (Nat.le_of_ble_eq_true rfl) ?_
  refine g_if_eq (pc := 5) (tgt := 18) cx dX9_leave_5 rfl hf (fun hf => ?_) (fun hf => ?_)
  · refine g_sub [] [] rfl ?_
    exact w_X9_leave_18 cx en h0 hf
  · refine g_iload_n (pc := 8) cx dX9_leave_8 rfl 2 rfl ?_
    refine g_iconst (pc := 9) (v := 0) cx dX9_leave_9 (by decide) ?_
    refine g_bipush (pc := 10) (v := 50) cx dX9_leave_10 (by decide) ?_
    obtain ⟨q6, M4, hc5, hf⟩ := obn_some2 hf
    refine g_callSi (pc := 12) [.int x2, .int 0, .int 50] [] cx lk_X9_25 (by decide) (c_X9_in hc5) dX9_leave_12 (Nat.le_of_ble_eq_true rfl) ?_
    refine g_if_ne (pc := 15) (tgt := 20) cx dX9_leave_15 rfl hf (fun hf => ?_) (fun hf => ?_)
    · refine g_sub [] [] rfl ?_
      exact w_X9_leave_18 cx en h0 hf
    · refine g_aload_n (pc := 20) cx dX9_leave_20 rfl 0 rfl ?_
      refine g_iload_n (pc := 21) cx dX9_leave_21 rfl 1 rfl ?_
      refine g_iconst (pc := 22) (v := 4) cx dX9_leave_22 (by decide) ?_
      obtain ⟨q9, M7, hc8, hf⟩ := obn_some2 hf
      refine g_callVi (pc := 23) [.int x1, .int 4] [] cx lk_X9_37 vw_X9 (LTramWiresModel_o h0) (by decide) (c_X9_of h0 hc8) dX9_leave_23 (Nat.le_of_ble_eq_true rfl) ?_
      refine g_if_eq (pc := 26) (tgt := 39) cx dX9_leave_26 rfl hf (fun hf => ?_) (fun hf => ?_)
      · refine g_sub [] [] rfl ?_
        exact w_X9_leave_39 cx en h0 hf
      · refine g_aload_n (pc := 29) cx dX9_leave_29 rfl 0 rfl ?_
        refine g_iload_n (pc := 30) cx dX9_leave_30 rfl 1 rfl ?_
        refine g_iconst (pc := 31) (v := 5) cx dX9_leave_31 (by decide) ?_
        obtain ⟨q12, M10, hc11, hf⟩ := obn_some2 hf
        refine g_callVi (pc := 32) [.int x1, .int 5] [] cx lk_X9_37 vw_X9 (LTramWiresModel_o h0) (by decide) (c_X9_of h0 hc11) dX9_leave_32 (Nat.le_of_ble_eq_true rfl) ?_
        refine g_iload_n (pc := 35) cx dX9_leave_35 rfl 2 rfl ?_
        refine g_icmp_ge (pc := 36) (tgt := 42) cx dX9_leave_36 rfl hf (fun hf => ?_) (fun hf => ?_)
        · refine g_sub [] [] rfl ?_
          exact w_X9_leave_39 cx en h0 hf
        · refine g_aload_n (pc := 42) cx dX9_leave_42 rfl 0 rfl ?_
          obtain ⟨q15, M13, hc14, hf⟩ := obn_some2 hf
          refine g_callVv (pc := 43) [] [] cx lk_X9_73 vw_X9 (LTramWiresModel_o h0) (by decide) (c_X9_records h0 hc14) dX9_leave_43 (Nat.le_of_ble_eq_true rfl) ?_
          refine g_aload_n (pc := 46) cx dX9_leave_46 rfl 0 rfl ?_
          refine g_iload_n (pc := 47) cx dX9_leave_47 rfl 1 rfl ?_
          refine g_bipush (pc := 48) (v := 7) cx dX9_leave_48 (by decide) ?_
          refine g_aload_n (pc := 50) cx dX9_leave_50 rfl 0 rfl ?_
          refine g_iload_n (pc := 51) cx dX9_leave_51 rfl 1 rfl ?_
          refine g_bipush (pc := 52) (v := 7) cx dX9_leave_52 (by decide) ?_
          obtain ⟨q18, M16, hc17, hf⟩ := obn_some2 hf
          refine g_callVi (pc := 54) [.int x1, .int 7] [.int 7, .int x1, .ref a0] cx lk_X9_37 vw_X9 (LTramWiresModel_o h0) (by decide) (c_X9_of h0 hc17) dX9_leave_54 (Nat.le_of_ble_eq_true rfl) ?_
          refine g_aload_n (pc := 57) cx dX9_leave_57 rfl 0 rfl ?_
          refine g_iload_n (pc := 58) cx dX9_leave_58 rfl 1 rfl ?_
          refine g_iconst (pc := 59) (v := 5) cx dX9_leave_59 (by decide) ?_
          obtain ⟨q21, M19, hc20, hf⟩ := obn_some2 hf
          refine g_callVi (pc := 60) [.int x1, .int 5] [.int q18, .int 7, .int x1, .ref a0] cx lk_X9_37 vw_X9 (LTramWiresModel_o h0) (by decide) (c_X9_of h0 hc20) dX9_leave_60 (Nat.le_of_ble_eq_true rfl) ?_
          refine g_iadd (pc := 63) cx dX9_leave_63 ?_
          refine g_iload_n (pc := 64) cx dX9_leave_64 rfl 2 rfl ?_
          refine g_isub (pc := 65) cx dX9_leave_65 ?_
          obtain ⟨q24, M22, hc23, hf⟩ := obn_some2 hf
          refine g_callVv (pc := 66) [.int x1, .int 7, .int ((q18 + q21) - x2)] [] cx lk_X9_76 vw_X9 (LTramWiresModel_o h0) (by decide) (c_X9_put h0 hc23) dX9_leave_66 (Nat.le_of_ble_eq_true rfl) ?_
          refine g_aload_n (pc := 69) cx dX9_leave_69 rfl 0 rfl ?_
          refine fg_X9_7 (pc := 70) cx dX9_leave_70 h0 ?_
          refine g_iconst (pc := 73) (v := 3) cx dX9_leave_73 (by decide) ?_
          refine g_iald (pc := 74) cx (LTramWiresModel_st h0) dX9_leave_74 hf (fun hf => ?_)
          refine g_aload_n (pc := 75) cx dX9_leave_75 rfl 0 rfl ?_
          refine g_iload_n (pc := 76) cx dX9_leave_76 rfl 1 rfl ?_
          refine g_bipush (pc := 77) (v := 6) cx dX9_leave_77 (by decide) ?_
          obtain ⟨q27, M25, hc26, hf⟩ := obn_some2 hf
          refine g_callVi (pc := 79) [.int x1, .int 6] [.int (M22 (a0 + 1) (ix 3))] cx lk_X9_37 vw_X9 (LTramWiresModel_o h0) (by decide) (c_X9_of h0 hc26) dX9_leave_79 (Nat.le_of_ble_eq_true rfl) ?_
          refine g_icmp_le (pc := 82) (tgt := 102) cx dX9_leave_82 rfl hf (fun hf => ?_) (fun hf => ?_)
          · refine g_aload_n (pc := 85) cx dX9_leave_85 rfl 0 rfl ?_
            refine fg_X9_7 (pc := 86) cx dX9_leave_86 h0 ?_
            refine g_iconst (pc := 89) (v := 3) cx dX9_leave_89 (by decide) ?_
            refine g_iald (pc := 90) cx (LTramWiresModel_st h0) dX9_leave_90 hf (fun hf => ?_)
            refine g_aload_n (pc := 91) cx dX9_leave_91 rfl 0 rfl ?_
            refine g_iload_n (pc := 92) cx dX9_leave_92 rfl 1 rfl ?_
            refine g_bipush (pc := 93) (v := 6) cx dX9_leave_93 (by decide) ?_
            obtain ⟨q30, M28, hc29, hf⟩ := obn_some2 hf
            refine g_callVi (pc := 95) [.int x1, .int 6] [.int (M25 (a0 + 1) (ix 3))] cx lk_X9_37 vw_X9 (LTramWiresModel_o h0) (by decide) (c_X9_of h0 hc29) dX9_leave_95 (Nat.le_of_ble_eq_true rfl) ?_
            refine g_isub (pc := 98) cx dX9_leave_98 ?_
            refine g_goto (pc := 99) (tgt := 103) cx dX9_leave_99 rfl ?_
            refine g_sub [0, 1] [(0, .ref a0), (1, .int x1)] rfl ?_
            exact w_X9_leave_103 cx en h0 hf
          · refine g_iconst (pc := 102) (v := 0) cx dX9_leave_102 (by decide) ?_
            refine g_sub [0, 1] [(0, .ref a0), (1, .int x1)] rfl ?_
            exact w_X9_leave_103 cx en h0 hf
/-! X9_fetch -/
def b_X9_fetch_40 (a0 : Nat) (M : Mm) : OR := some ((-2), M)
def f_X9_fetch (a0 : Nat) (M : Mm) (x1 : Int32) : OR := obn (f_X9_isSection a0 M x1) fun q3 M1 => (if q3 = 0 then some ((-1), M1) else obn (f_X9_of a0 M1 x1 7) fun q6 M4 => (if q6 = 0 then b_X9_fetch_40 a0 M4 else obn (f_X9_isLive a0 M4 x1) fun q9 M7 => (if q9 = 0 then obn (f_X9_of a0 M7 x1 4) fun q12 M10 => (if q12 = 1 then b_X9_fetch_40 a0 M10 else obn (f_X9_records a0 M10) fun _ M13 => (obn (f_X9_put a0 M13 x1 7 0) fun _ M16 => (some (q6, M16)))) else b_X9_fetch_40 a0 M7)))
set_option maxHeartbeats 4000000 in
set_option maxRecDepth 100000 in
theorem w_X9_fetch_40 {l : Launch} {w : Wp} {L : Ly} {E : Cx} {a0 : Nat} {R0 : Int32 × Mm} (cx : Ok w L E RX9 cX9_fetch 3 5) (en : En w L E (some .int) R0) (h0 : LTramWiresModel w L (a0)) {M : Mm} (hf : b_X9_fetch_40 a0 M = some R0) : G l w L E M [] 40 [] := by
  unfold b_X9_fetch_40 at hf
  refine g_bipush (pc := 40) (v := (-2)) cx dX9_fetch_40 (by decide) ?_
  exact g_iret (pc := 42) cx en dX9_fetch_42 rfl hf
set_option maxHeartbeats 4000000 in
set_option maxRecDepth 100000 in
theorem c_X9_fetch {l : Launch} {w : Wp} {L : Ly} {a0 : Nat} {M : Mm} {x1 : Int32} {R0 : Int32 × Mm} (h0 : LTramWiresModel w L (a0)) (hf : f_X9_fetch a0 M x1 = some R0) : CT l w L yX9_fetch cX9_fetch 3 (some .int) 5 [.ref a0, .int x1] M R0 := by
  unfold f_X9_fetch at hf
  refine CT_of pn_X9 (Nat.le_of_ble_eq_true rfl) (fun E cx en => ?_)
  have cx : Ok w L E RX9 cX9_fetch 3 5 := cx
  show G l w L E M [(0, .ref a0), (1, .int x1)] 0 []
  refine g_aload_n (pc := 0) cx dX9_fetch_0 rfl 0 rfl ?_
  refine g_iload_n (pc := 1) cx dX9_fetch_1 rfl 1 rfl ?_
  obtain ⟨q3, M1, hc2, hf⟩ := obn_some2 hf
  refine g_callVi (pc := 2) [.int x1] [] cx lk_X9_86 vw_X9 (LTramWiresModel_o h0) (by decide) (c_X9_isSection h0 hc2) dX9_fetch_2 (Nat.le_of_ble_eq_true rfl) ?_
  refine g_if_ne (pc := 5) (tgt := 10) cx dX9_fetch_5 rfl hf (fun hf => ?_) (fun hf => ?_)
  · refine g_iconst (pc := 8) (v := (-1)) cx dX9_fetch_8 (by decide) ?_
    exact g_iret (pc := 9) cx en dX9_fetch_9 rfl hf
  · refine g_aload_n (pc := 10) cx dX9_fetch_10 rfl 0 rfl ?_
    refine g_iload_n (pc := 11) cx dX9_fetch_11 rfl 1 rfl ?_
    refine g_bipush (pc := 12) (v := 7) cx dX9_fetch_12 (by decide) ?_
    obtain ⟨q6, M4, hc5, hf⟩ := obn_some2 hf
    refine g_callVi (pc := 14) [.int x1, .int 7] [] cx lk_X9_37 vw_X9 (LTramWiresModel_o h0) (by decide) (c_X9_of h0 hc5) dX9_fetch_14 (Nat.le_of_ble_eq_true rfl) ?_
    refine g_istore_n (pc := 17) cx [(2, .int q6), (0, .ref a0), (1, .int x1)] dX9_fetch_17 rfl (by decide) rfl ?_
    refine g_iload_n (pc := 18) cx dX9_fetch_18 rfl 0 rfl ?_
    refine g_if_eq (pc := 19) (tgt := 40) cx dX9_fetch_19 rfl hf (fun hf => ?_) (fun hf => ?_)
    · refine g_sub [] [] rfl ?_
      exact w_X9_fetch_40 cx en h0 hf
    · refine g_aload_n (pc := 22) cx dX9_fetch_22 rfl 1 rfl ?_
      refine g_iload_n (pc := 23) cx dX9_fetch_23 rfl 2 rfl ?_
      obtain ⟨q9, M7, hc8, hf⟩ := obn_some2 hf
      refine g_callVi (pc := 24) [.int x1] [] cx lk_X9_104 vw_X9 (LTramWiresModel_o h0) (by decide) (c_X9_isLive h0 hc8) dX9_fetch_24 (Nat.le_of_ble_eq_true rfl) ?_
      refine g_if_ne (pc := 27) (tgt := 40) cx dX9_fetch_27 rfl hf (fun hf => ?_) (fun hf => ?_)
      · refine g_aload_n (pc := 30) cx dX9_fetch_30 rfl 1 rfl ?_
        refine g_iload_n (pc := 31) cx dX9_fetch_31 rfl 2 rfl ?_
        refine g_iconst (pc := 32) (v := 4) cx dX9_fetch_32 (by decide) ?_
        obtain ⟨q12, M10, hc11, hf⟩ := obn_some2 hf
        refine g_callVi (pc := 33) [.int x1, .int 4] [] cx lk_X9_37 vw_X9 (LTramWiresModel_o h0) (by decide) (c_X9_of h0 hc11) dX9_fetch_33 (Nat.le_of_ble_eq_true rfl) ?_
        refine g_iconst (pc := 36) (v := 1) cx dX9_fetch_36 (by decide) ?_
        refine g_icmp_ne (pc := 37) (tgt := 43) cx dX9_fetch_37 rfl hf (fun hf => ?_) (fun hf => ?_)
        · refine g_sub [] [] rfl ?_
          exact w_X9_fetch_40 cx en h0 hf
        · refine g_aload_n (pc := 43) cx dX9_fetch_43 rfl 1 rfl ?_
          obtain ⟨q15, M13, hc14, hf⟩ := obn_some2 hf
          refine g_callVv (pc := 44) [] [] cx lk_X9_73 vw_X9 (LTramWiresModel_o h0) (by decide) (c_X9_records h0 hc14) dX9_fetch_44 (Nat.le_of_ble_eq_true rfl) ?_
          refine g_aload_n (pc := 47) cx dX9_fetch_47 rfl 1 rfl ?_
          refine g_iload_n (pc := 48) cx dX9_fetch_48 rfl 2 rfl ?_
          refine g_bipush (pc := 49) (v := 7) cx dX9_fetch_49 (by decide) ?_
          refine g_iconst (pc := 51) (v := 0) cx dX9_fetch_51 (by decide) ?_
          obtain ⟨q18, M16, hc17, hf⟩ := obn_some2 hf
          refine g_callVv (pc := 52) [.int x1, .int 7, .int 0] [] cx lk_X9_76 vw_X9 (LTramWiresModel_o h0) (by decide) (c_X9_put h0 hc17) dX9_fetch_52 (Nat.le_of_ble_eq_true rfl) ?_
          refine g_iload_n (pc := 55) cx dX9_fetch_55 rfl 0 rfl ?_
          exact g_iret (pc := 56) cx en dX9_fetch_56 rfl hf
      · refine g_sub [] [] rfl ?_
        exact w_X9_fetch_40 cx en h0 hf
/-! X9_pass -/
def f_X9_pass (a0 : Nat) (M : Mm) (x1 : Int32) : OR := obn (f_X9_in M x1 1 10000) fun q3 M1 => (if q3 = 0 then some ((-1), M1) else ckd 3 233 (if 100000 < ((M1 (a0 + 1) (ix 3)) + x1) then some ((-3), M1) else obn (f_X9_records a0 M1) fun _ M4 => (ckd 3 233 (ckd 3 233 (bnd (mst M4 (a0 + 1) (ix 3) ((M4 (a0 + 1) (ix 3)) + x1)) fun M7 => ckd 3 233 (some ((M7 (a0 + 1) (ix 3)), M7)))))))
set_option maxHeartbeats 4000000 in
set_option maxRecDepth 100000 in
theorem c_X9_pass {l : Launch} {w : Wp} {L : Ly} {a0 : Nat} {M : Mm} {x1 : Int32} {R0 : Int32 × Mm} (h0 : LTramWiresModel w L (a0)) (hf : f_X9_pass a0 M x1 = some R0) : CT l w L yX9_pass cX9_pass 2 (some .int) 1 [.ref a0, .int x1] M R0 := by
  unfold f_X9_pass at hf
  refine CT_of pn_X9 (Nat.le_of_ble_eq_true rfl) (fun E cx en => ?_)
  have cx : Ok w L E RX9 cX9_pass 2 1 := cx
  show G l w L E M [(0, .ref a0), (1, .int x1)] 0 []
  refine g_iload_n (pc := 0) cx dX9_pass_0 rfl 1 rfl ?_
  refine g_iconst (pc := 1) (v := 1) cx dX9_pass_1 (by decide) ?_
  refine g_sipush (pc := 2) (v := 10000) cx dX9_pass_2 (by decide) ?_
  obtain ⟨q3, M1, hc2, hf⟩ := obn_some2 hf
  refine g_callSi (pc := 5) [.int x1, .int 1, .int 10000] [] cx lk_X9_25 (by decide) (c_X9_in hc2) dX9_pass_5 (Nat.le_of_ble_eq_true rfl) ?_
  refine g_if_ne (pc := 8) (tgt := 13) cx dX9_pass_8 rfl hf (fun hf => ?_) (fun hf => ?_)
  · refine g_iconst (pc := 11) (v := (-1)) cx dX9_pass_11 (by decide) ?_
    exact g_iret (pc := 12) cx en dX9_pass_12 rfl hf
  · refine g_aload_n (pc := 13) cx dX9_pass_13 rfl 0 rfl ?_
    refine fg_X9_7 (pc := 14) cx dX9_pass_14 h0 ?_
    refine g_iconst (pc := 17) (v := 3) cx dX9_pass_17 (by decide) ?_
    refine g_iald (pc := 18) cx (LTramWiresModel_st h0) dX9_pass_18 hf (fun hf => ?_)
    refine g_iload_n (pc := 19) cx dX9_pass_19 rfl 1 rfl ?_
    refine g_iadd (pc := 20) cx dX9_pass_20 ?_
    refine g_ldc (pc := 21) cx tk_X9_172 dX9_pass_21 ?_
    refine g_icmp_le (pc := 23) (tgt := 29) cx dX9_pass_23 rfl hf (fun hf => ?_) (fun hf => ?_)
    · refine g_bipush (pc := 26) (v := (-3)) cx dX9_pass_26 (by decide) ?_
      exact g_iret (pc := 28) cx en dX9_pass_28 rfl hf
    · refine g_aload_n (pc := 29) cx dX9_pass_29 rfl 0 rfl ?_
      obtain ⟨q6, M4, hc5, hf⟩ := obn_some2 hf
      refine g_callVv (pc := 30) [] [] cx lk_X9_73 vw_X9 (LTramWiresModel_o h0) (by decide) (c_X9_records h0 hc5) dX9_pass_30 (Nat.le_of_ble_eq_true rfl) ?_
      refine g_aload_n (pc := 33) cx dX9_pass_33 rfl 0 rfl ?_
      refine fg_X9_7 (pc := 34) cx dX9_pass_34 h0 ?_
      refine g_iconst (pc := 37) (v := 3) cx dX9_pass_37 (by decide) ?_
      refine g_dup2 (pc := 38) cx dX9_pass_38 rfl rfl ?_
      refine g_iald (pc := 39) cx (LTramWiresModel_st h0) dX9_pass_39 hf (fun hf => ?_)
      refine g_iload_n (pc := 40) cx dX9_pass_40 rfl 1 rfl ?_
      refine g_iadd (pc := 41) cx dX9_pass_41 ?_
      refine g_iast (pc := 42) cx (LTramWiresModel_st h0) dX9_pass_42 hf (fun M7 hf => ?_)
      refine g_aload_n (pc := 43) cx dX9_pass_43 rfl 0 rfl ?_
      refine fg_X9_7 (pc := 44) cx dX9_pass_44 h0 ?_
      refine g_iconst (pc := 47) (v := 3) cx dX9_pass_47 (by decide) ?_
      refine g_iald (pc := 48) cx (LTramWiresModel_st h0) dX9_pass_48 hf (fun hf => ?_)
      exact g_iret (pc := 49) cx en dX9_pass_49 rfl hf
/-! X9_type -/
def f_X9_type (a0 : Nat) (M : Mm) (x1 : Int32) : OR := obn (f_X9_in M x1 32 126) fun q3 M1 => (if q3 = 0 then some ((-1), M1) else if (M1 a0 5) = 60 then some ((-3), M1) else ckd (M1 a0 5) 60 (bnd (mst M1 (a0 + 4) (ix (M1 a0 5)) x1) fun M4 => bnd (mst M4 a0 5 ((M4 a0 5) + 1)) fun M5 => some ((M5 a0 5), M5)))
set_option maxHeartbeats 4000000 in
set_option maxRecDepth 100000 in
theorem c_X9_type {l : Launch} {w : Wp} {L : Ly} {a0 : Nat} {M : Mm} {x1 : Int32} {R0 : Int32 × Mm} (h0 : LTramWiresModel w L (a0)) (hf : f_X9_type a0 M x1 = some R0) : CT l w L yX9_type cX9_type 2 (some .int) 1 [.ref a0, .int x1] M R0 := by
  unfold f_X9_type at hf
  refine CT_of pn_X9 (Nat.le_of_ble_eq_true rfl) (fun E cx en => ?_)
  have cx : Ok w L E RX9 cX9_type 2 1 := cx
  show G l w L E M [(0, .ref a0), (1, .int x1)] 0 []
  refine g_iload_n (pc := 0) cx dX9_type_0 rfl 1 rfl ?_
  refine g_bipush (pc := 1) (v := 32) cx dX9_type_1 (by decide) ?_
  refine g_bipush (pc := 3) (v := 126) cx dX9_type_3 (by decide) ?_
  obtain ⟨q3, M1, hc2, hf⟩ := obn_some2 hf
  refine g_callSi (pc := 5) [.int x1, .int 32, .int 126] [] cx lk_X9_25 (by decide) (c_X9_in hc2) dX9_type_5 (Nat.le_of_ble_eq_true rfl) ?_
  refine g_if_ne (pc := 8) (tgt := 13) cx dX9_type_8 rfl hf (fun hf => ?_) (fun hf => ?_)
  · refine g_iconst (pc := 11) (v := (-1)) cx dX9_type_11 (by decide) ?_
    exact g_iret (pc := 12) cx en dX9_type_12 rfl hf
  · refine g_aload_n (pc := 13) cx dX9_type_13 rfl 0 rfl ?_
    refine fg_X9_132 (pc := 14) cx dX9_type_14 h0 ?_
    refine g_bipush (pc := 17) (v := 60) cx dX9_type_17 (by decide) ?_
    refine g_icmp_ne (pc := 19) (tgt := 25) cx dX9_type_19 rfl hf (fun hf => ?_) (fun hf => ?_)
    · refine g_bipush (pc := 22) (v := (-3)) cx dX9_type_22 (by decide) ?_
      exact g_iret (pc := 24) cx en dX9_type_24 rfl hf
    · refine g_aload_n (pc := 25) cx dX9_type_25 rfl 0 rfl ?_
      refine fg_X9_19 (pc := 26) cx dX9_type_26 h0 ?_
      refine g_aload_n (pc := 29) cx dX9_type_29 rfl 0 rfl ?_
      refine fg_X9_132 (pc := 30) cx dX9_type_30 h0 ?_
      refine g_iload_n (pc := 33) cx dX9_type_33 rfl 1 rfl ?_
      refine g_iast (pc := 34) cx (LTramWiresModel_text h0) dX9_type_34 hf (fun M4 hf => ?_)
      refine g_aload_n (pc := 35) cx dX9_type_35 rfl 0 rfl ?_
      refine g_dup (pc := 36) cx dX9_type_36 rfl ?_
      refine fg_X9_132 (pc := 37) cx dX9_type_37 h0 ?_
      refine g_iconst (pc := 40) (v := 1) cx dX9_type_40 (by decide) ?_
      refine g_iadd (pc := 41) cx dX9_type_41 ?_
      refine fp_X9_132 (pc := 42) cx dX9_type_42 h0 hf (fun M5 hf => ?_)
      refine g_aload_n (pc := 45) cx dX9_type_45 rfl 0 rfl ?_
      refine fg_X9_132 (pc := 46) cx dX9_type_46 h0 ?_
      exact g_iret (pc := 49) cx en dX9_type_49 rfl hf
/-! X9_clearText -/
def f_X9_clearText (a0 : Nat) (M : Mm) : OR := bnd (M a0 5) fun v1 => bnd (mst M a0 5 0) fun M2 => some (v1, M2)
set_option maxHeartbeats 4000000 in
set_option maxRecDepth 100000 in
theorem c_X9_clearText {l : Launch} {w : Wp} {L : Ly} {a0 : Nat} {M : Mm} {R0 : Int32 × Mm} (h0 : LTramWiresModel w L (a0)) (hf : f_X9_clearText a0 M = some R0) : CT l w L yX9_clearText cX9_clearText 2 (some .int) 0 [.ref a0] M R0 := by
  unfold f_X9_clearText at hf
  refine CT_of pn_X9 (Nat.le_of_ble_eq_true rfl) (fun E cx en => ?_)
  have cx : Ok w L E RX9 cX9_clearText 2 0 := cx
  show G l w L E M [(0, .ref a0)] 0 []
  refine g_aload_n (pc := 0) cx dX9_clearText_0 rfl 0 rfl ?_
  refine fg_X9_132 (pc := 1) cx dX9_clearText_1 h0 ?_
  refine g_nm hf (fun v1 hf => ?_)
  refine g_istore_n (pc := 4) cx [(1, .int v1), (0, .ref a0)] dX9_clearText_4 rfl (by decide) rfl ?_
  refine g_aload_n (pc := 5) cx dX9_clearText_5 rfl 1 rfl ?_
  refine g_iconst (pc := 6) (v := 0) cx dX9_clearText_6 (by decide) ?_
  refine fp_X9_132 (pc := 7) cx dX9_clearText_7 h0 hf (fun M2 hf => ?_)
  refine g_iload_n (pc := 10) cx dX9_clearText_10 rfl 0 rfl ?_
  exact g_iret (pc := 11) cx en dX9_clearText_11 rfl hf
/-! X9_kindOf -/
def b_X9_kindOf_119 (M : Mm) (s0 : Int32) : OR := some (s0, M)
def b_X9_kindOf_107 (M : Mm) (x0 : Int32) : OR := if x0 = 117 then b_X9_kindOf_119 M 7 else b_X9_kindOf_119 M (-1)
def f_X9_kindOf (M : Mm) (x0 : Int32) : OR := if x0 = 98 then some (0, M) else if x0 = 99 then some (3, M) else if x0 = 100 then b_X9_kindOf_107 M x0 else if x0 = 101 then some (6, M) else if x0 = 102 then some (4, M) else if x0 = 103 then b_X9_kindOf_107 M x0 else if x0 = 104 then b_X9_kindOf_107 M x0 else if x0 = 105 then b_X9_kindOf_107 M x0 else if x0 = 106 then b_X9_kindOf_107 M x0 else if x0 = 107 then b_X9_kindOf_107 M x0 else if x0 = 108 then b_X9_kindOf_107 M x0 else if x0 = 109 then b_X9_kindOf_107 M x0 else if x0 = 110 then some (5, M) else if x0 = 111 then some (2, M) else if x0 = 112 then b_X9_kindOf_107 M x0 else if x0 = 113 then b_X9_kindOf_107 M x0 else if x0 = 114 then b_X9_kindOf_107 M x0 else if x0 = 115 then b_X9_kindOf_107 M x0 else if x0 = 116 then some (1, M) else b_X9_kindOf_107 M x0
set_option maxHeartbeats 4000000 in
set_option maxRecDepth 100000 in
theorem w_X9_kindOf_119 {l : Launch} {w : Wp} {L : Ly} {E : Cx} {s0 : Int32} {R0 : Int32 × Mm} (cx : Ok w L E RX9 cX9_kindOf 1 0) (en : En w L E (some .int) R0)  {M : Mm} (hf : b_X9_kindOf_119 M s0 = some R0) : G l w L E M [] 119 [.int s0] := by
  unfold b_X9_kindOf_119 at hf
  exact g_iret (pc := 119) cx en dX9_kindOf_119 rfl hf
set_option maxHeartbeats 4000000 in
set_option maxRecDepth 100000 in
theorem w_X9_kindOf_107 {l : Launch} {w : Wp} {L : Ly} {E : Cx} {x0 : Int32} {R0 : Int32 × Mm} (cx : Ok w L E RX9 cX9_kindOf 1 0) (en : En w L E (some .int) R0)  {M : Mm} (hf : b_X9_kindOf_107 M x0 = some R0) : G l w L E M [(0, .int x0)] 107 [] := by
  unfold b_X9_kindOf_107 at hf
  refine g_iload_n (pc := 107) cx dX9_kindOf_107 rfl 0 rfl ?_
  refine g_bipush (pc := 108) (v := 117) cx dX9_kindOf_108 (by decide) ?_
  refine g_icmp_ne (pc := 110) (tgt := 118) cx dX9_kindOf_110 rfl hf (fun hf => ?_) (fun hf => ?_)
  · refine g_bipush (pc := 113) (v := 7) cx dX9_kindOf_113 (by decide) ?_
    refine g_goto (pc := 115) (tgt := 119) cx dX9_kindOf_115 rfl ?_
    refine g_sub [] [] rfl ?_
    exact w_X9_kindOf_119 cx en hf
  · refine g_iconst (pc := 118) (v := (-1)) cx dX9_kindOf_118 (by decide) ?_
    refine g_sub [] [] rfl ?_
    exact w_X9_kindOf_119 cx en hf
set_option maxHeartbeats 4000000 in
set_option maxRecDepth 100000 in
theorem c_X9_kindOf {l : Launch} {w : Wp} {L : Ly} {M : Mm} {x0 : Int32} {R0 : Int32 × Mm}  (hf : f_X9_kindOf M x0 = some R0) : CT l w L yX9_kindOf cX9_kindOf 1 (some .int) 0 [.int x0] M R0 := by
  unfold f_X9_kindOf at hf
  refine CT_of pn_X9 (Nat.le_of_ble_eq_true rfl) (fun E cx en => ?_)
  have cx : Ok w L E RX9 cX9_kindOf 1 0 := cx
  show G l w L E M [(0, .int x0)] 0 []
  refine g_iload_n (pc := 0) cx dX9_kindOf_0 rfl 0 rfl ?_
  refine g_swk (pc := 1) (kx := 98) (off := 91) (tgt := 92) cx dX9_kindOf_1 (by decide) (by decide) (by decide) (by decide) hf (fun hf => ?_) (fun n0 hf => ?_)
  · refine g_iconst (pc := 92) (v := 0) cx dX9_kindOf_92 (by decide) ?_
    exact g_iret (pc := 93) cx en dX9_kindOf_93 rfl hf
  refine g_swk (pc := 1) (kx := 99) (off := 97) (tgt := 98) cx dX9_kindOf_1 (by decide) (by decide) (by decide) (by decide) hf (fun hf => ?_) (fun n1 hf => ?_)
  · refine g_iconst (pc := 98) (v := 3) cx dX9_kindOf_98 (by decide) ?_
    exact g_iret (pc := 99) cx en dX9_kindOf_99 rfl hf
  refine g_swk (pc := 1) (kx := 100) (off := 106) (tgt := 107) cx dX9_kindOf_1 (by decide) (by decide) (by decide) (by decide) hf (fun hf => ?_) (fun n2 hf => ?_)
  · exact w_X9_kindOf_107 cx en hf
  refine g_swk (pc := 1) (kx := 101) (off := 103) (tgt := 104) cx dX9_kindOf_1 (by decide) (by decide) (by decide) (by decide) hf (fun hf => ?_) (fun n3 hf => ?_)
  · refine g_bipush (pc := 104) (v := 6) cx dX9_kindOf_104 (by decide) ?_
    exact g_iret (pc := 106) cx en dX9_kindOf_106 rfl hf
  refine g_swk (pc := 1) (kx := 102) (off := 99) (tgt := 100) cx dX9_kindOf_1 (by decide) (by decide) (by decide) (by decide) hf (fun hf => ?_) (fun n4 hf => ?_)
  · refine g_iconst (pc := 100) (v := 4) cx dX9_kindOf_100 (by decide) ?_
    exact g_iret (pc := 101) cx en dX9_kindOf_101 rfl hf
  refine g_swk (pc := 1) (kx := 103) (off := 106) (tgt := 107) cx dX9_kindOf_1 (by decide) (by decide) (by decide) (by decide) hf (fun hf => ?_) (fun n5 hf => ?_)
  · exact w_X9_kindOf_107 cx en hf
  refine g_swk (pc := 1) (kx := 104) (off := 106) (tgt := 107) cx dX9_kindOf_1 (by decide) (by decide) (by decide) (by decide) hf (fun hf => ?_) (fun n6 hf => ?_)
  · exact w_X9_kindOf_107 cx en hf
  refine g_swk (pc := 1) (kx := 105) (off := 106) (tgt := 107) cx dX9_kindOf_1 (by decide) (by decide) (by decide) (by decide) hf (fun hf => ?_) (fun n7 hf => ?_)
  · exact w_X9_kindOf_107 cx en hf
  refine g_swk (pc := 1) (kx := 106) (off := 106) (tgt := 107) cx dX9_kindOf_1 (by decide) (by decide) (by decide) (by decide) hf (fun hf => ?_) (fun n8 hf => ?_)
  · exact w_X9_kindOf_107 cx en hf
  refine g_swk (pc := 1) (kx := 107) (off := 106) (tgt := 107) cx dX9_kindOf_1 (by decide) (by decide) (by decide) (by decide) hf (fun hf => ?_) (fun n9 hf => ?_)
  · exact w_X9_kindOf_107 cx en hf
  refine g_swk (pc := 1) (kx := 108) (off := 106) (tgt := 107) cx dX9_kindOf_1 (by decide) (by decide) (by decide) (by decide) hf (fun hf => ?_) (fun n10 hf => ?_)
  · exact w_X9_kindOf_107 cx en hf
  refine g_swk (pc := 1) (kx := 109) (off := 106) (tgt := 107) cx dX9_kindOf_1 (by decide) (by decide) (by decide) (by decide) hf (fun hf => ?_) (fun n11 hf => ?_)
  · exact w_X9_kindOf_107 cx en hf
  refine g_swk (pc := 1) (kx := 110) (off := 101) (tgt := 102) cx dX9_kindOf_1 (by decide) (by decide) (by decide) (by decide) hf (fun hf => ?_) (fun n12 hf => ?_)
  · refine g_iconst (pc := 102) (v := 5) cx dX9_kindOf_102 (by decide) ?_
    exact g_iret (pc := 103) cx en dX9_kindOf_103 rfl hf
  refine g_swk (pc := 1) (kx := 111) (off := 95) (tgt := 96) cx dX9_kindOf_1 (by decide) (by decide) (by decide) (by decide) hf (fun hf => ?_) (fun n13 hf => ?_)
  · refine g_iconst (pc := 96) (v := 2) cx dX9_kindOf_96 (by decide) ?_
    exact g_iret (pc := 97) cx en dX9_kindOf_97 rfl hf
  refine g_swk (pc := 1) (kx := 112) (off := 106) (tgt := 107) cx dX9_kindOf_1 (by decide) (by decide) (by decide) (by decide) hf (fun hf => ?_) (fun n14 hf => ?_)
  · exact w_X9_kindOf_107 cx en hf
  refine g_swk (pc := 1) (kx := 113) (off := 106) (tgt := 107) cx dX9_kindOf_1 (by decide) (by decide) (by decide) (by decide) hf (fun hf => ?_) (fun n15 hf => ?_)
  · exact w_X9_kindOf_107 cx en hf
  refine g_swk (pc := 1) (kx := 114) (off := 106) (tgt := 107) cx dX9_kindOf_1 (by decide) (by decide) (by decide) (by decide) hf (fun hf => ?_) (fun n16 hf => ?_)
  · exact w_X9_kindOf_107 cx en hf
  refine g_swk (pc := 1) (kx := 115) (off := 106) (tgt := 107) cx dX9_kindOf_1 (by decide) (by decide) (by decide) (by decide) hf (fun hf => ?_) (fun n17 hf => ?_)
  · exact w_X9_kindOf_107 cx en hf
  refine g_swk (pc := 1) (kx := 116) (off := 93) (tgt := 94) cx dX9_kindOf_1 (by decide) (by decide) (by decide) (by decide) hf (fun hf => ?_) (fun n18 hf => ?_)
  · refine g_iconst (pc := 94) (v := 1) cx dX9_kindOf_94 (by decide) ?_
    exact g_iret (pc := 95) cx en dX9_kindOf_95 rfl hf
  refine g_swo (pc := 1) (tgt := 107) cx dX9_kindOf_1 ?_ (by decide) ?_
  · have q0 := lv_neT n0 (a := 98) (by decide)
    have q1 := lv_neT n1 (a := 99) (by decide)
    have q2 := lv_neT n2 (a := 100) (by decide)
    have q3 := lv_neT n3 (a := 101) (by decide)
    have q4 := lv_neT n4 (a := 102) (by decide)
    have q5 := lv_neT n5 (a := 103) (by decide)
    have q6 := lv_neT n6 (a := 104) (by decide)
    have q7 := lv_neT n7 (a := 105) (by decide)
    have q8 := lv_neT n8 (a := 106) (by decide)
    have q9 := lv_neT n9 (a := 107) (by decide)
    have q10 := lv_neT n10 (a := 108) (by decide)
    have q11 := lv_neT n11 (a := 109) (by decide)
    have q12 := lv_neT n12 (a := 110) (by decide)
    have q13 := lv_neT n13 (a := 111) (by decide)
    have q14 := lv_neT n14 (a := 112) (by decide)
    have q15 := lv_neT n15 (a := 113) (by decide)
    have q16 := lv_neT n16 (a := 114) (by decide)
    have q17 := lv_neT n17 (a := 115) (by decide)
    have q18 := lv_neT n18 (a := 116) (by decide)
    omega
  · exact w_X9_kindOf_107 cx en hf
/-! X9_isFormed -/
def b_X9_isFormed_149 (a0 : Nat) (M : Mm) (s0 : Int32) : OR := bnd (mst M a0 8 ((M a0 8) + 1)) fun M1 => zrk s0 (some (s0, M1))
def b_X9_isFormed_148 (a0 : Nat) (M : Mm) : OR := b_X9_isFormed_149 a0 M 0
def b_X9_isFormed_115 (a0 : Nat) (M : Mm) (x1 : Int32) : OR := if 0 < x1 then if (M a0 8) < (M a0 5) then ckd (M a0 8) 60 (if (M (a0 + 4) (ix (M a0 8))) = 59 then b_X9_isFormed_149 a0 M 1 else b_X9_isFormed_148 a0 M) else b_X9_isFormed_148 a0 M else b_X9_isFormed_148 a0 M
def l_X9_isFormed_33 (a0 : Nat) : Nat → Mm → Int32 → OR
  | 0, _, _ => none
  | k + 1, M, x1 => if (M a0 9) < 0 then b_X9_isFormed_115 a0 M x1 else if x1 < 2 then if (M a0 8) < (M a0 5) then ckd (M a0 8) 60 (obn (f_X9_in M (M (a0 + 4) (ix (M a0 8))) 48 57) fun q3 M1 => (if q3 = 0 then b_X9_isFormed_115 a0 M1 x1 else ckd (M1 a0 8) 60 (bnd (mst M1 a0 10 (((10 * (M1 a0 10)) + (M1 (a0 + 4) (ix (M1 a0 8)))) - 48)) fun M4 => bnd (mst M4 a0 8 ((M4 a0 8) + 1)) fun M5 => l_X9_isFormed_33 a0 k M5 (x1 + 1)))) else b_X9_isFormed_115 a0 M x1 else b_X9_isFormed_115 a0 M x1
def f_X9_isFormed (a0 : Nat) (M : Mm) : OR := ckd (M a0 8) 60 (obn (f_X9_kindOf M (M (a0 + 4) (ix (M a0 8)))) fun q3 M1 => (bnd (mst M1 a0 9 q3) fun M4 => bnd (mst M4 a0 8 ((M4 a0 8) + 1)) fun M5 => bnd (mst M5 a0 10 0) fun M6 => l_X9_isFormed_33 a0 FU M6 0))
set_option maxHeartbeats 4000000 in
set_option maxRecDepth 100000 in
theorem w_X9_isFormed_149 {l : Launch} {w : Wp} {L : Ly} {E : Cx} {a0 : Nat} {s0 : Int32} {R0 : Int32 × Mm} (cx : Ok w L E RX9 cX9_isFormed 3 1) (en : En w L E (some .boolean) R0) (h0 : LTramWiresModel w L (a0)) {M : Mm} (hf : b_X9_isFormed_149 a0 M s0 = some R0) : G l w L E M [(0, .ref a0)] 149 [.int s0] := by
  unfold b_X9_isFormed_149 at hf
  refine g_istore_n (pc := 149) cx [(2, .int s0), (0, .ref a0)] dX9_isFormed_149 rfl (by decide) rfl ?_
  refine g_aload_n (pc := 150) cx dX9_isFormed_150 rfl 1 rfl ?_
  refine g_dup (pc := 151) cx dX9_isFormed_151 rfl ?_
  refine fg_X9_173 (pc := 152) cx dX9_isFormed_152 h0 ?_
  refine g_iconst (pc := 155) (v := 1) cx dX9_isFormed_155 (by decide) ?_
  refine g_iadd (pc := 156) cx dX9_isFormed_156 ?_
  refine fp_X9_173 (pc := 157) cx dX9_isFormed_157 h0 hf (fun M1 hf => ?_)
  refine g_iload_n (pc := 160) cx dX9_isFormed_160 rfl 0 rfl ?_
  exact g_zret (pc := 161) cx en dX9_isFormed_161 hf
set_option maxHeartbeats 4000000 in
set_option maxRecDepth 100000 in
theorem w_X9_isFormed_148 {l : Launch} {w : Wp} {L : Ly} {E : Cx} {a0 : Nat} {R0 : Int32 × Mm} (cx : Ok w L E RX9 cX9_isFormed 3 1) (en : En w L E (some .boolean) R0) (h0 : LTramWiresModel w L (a0)) {M : Mm} (hf : b_X9_isFormed_148 a0 M = some R0) : G l w L E M [(0, .ref a0)] 148 [] := by
  unfold b_X9_isFormed_148 at hf
  refine g_iconst (pc := 148) (v := 0) cx dX9_isFormed_148 (by decide) ?_
  exact w_X9_isFormed_149 cx en h0 hf
set_option maxHeartbeats 4000000 in
set_option maxRecDepth 100000 in
theorem w_X9_isFormed_115 {l : Launch} {w : Wp} {L : Ly} {E : Cx} {a0 : Nat} {x1 : Int32} {R0 : Int32 × Mm} (cx : Ok w L E RX9 cX9_isFormed 3 1) (en : En w L E (some .boolean) R0) (h0 : LTramWiresModel w L (a0)) {M : Mm} (hf : b_X9_isFormed_115 a0 M x1 = some R0) : G l w L E M [(0, .ref a0), (1, .int x1)] 115 [] := by
  unfold b_X9_isFormed_115 at hf
  refine g_iload_n (pc := 115) cx dX9_isFormed_115 rfl 1 rfl ?_
  refine g_if_le (pc := 116) (tgt := 148) cx dX9_isFormed_116 rfl hf (fun hf => ?_) (fun hf => ?_)
  · refine g_aload_n (pc := 119) cx dX9_isFormed_119 rfl 0 rfl ?_
    refine fg_X9_173 (pc := 120) cx dX9_isFormed_120 h0 ?_
    refine g_aload_n (pc := 123) cx dX9_isFormed_123 rfl 0 rfl ?_
    refine fg_X9_132 (pc := 124) cx dX9_isFormed_124 h0 ?_
    refine g_icmp_ge (pc := 127) (tgt := 148) cx dX9_isFormed_127 rfl hf (fun hf => ?_) (fun hf => ?_)
    · refine g_aload_n (pc := 130) cx dX9_isFormed_130 rfl 0 rfl ?_
      refine fg_X9_19 (pc := 131) cx dX9_isFormed_131 h0 ?_
      refine g_aload_n (pc := 134) cx dX9_isFormed_134 rfl 0 rfl ?_
      refine fg_X9_173 (pc := 135) cx dX9_isFormed_135 h0 ?_
      refine g_iald (pc := 138) cx (LTramWiresModel_text h0) dX9_isFormed_138 hf (fun hf => ?_)
      refine g_bipush (pc := 139) (v := 59) cx dX9_isFormed_139 (by decide) ?_
      refine g_icmp_ne (pc := 141) (tgt := 148) cx dX9_isFormed_141 rfl hf (fun hf => ?_) (fun hf => ?_)
      · refine g_iconst (pc := 144) (v := 1) cx dX9_isFormed_144 (by decide) ?_
        refine g_goto (pc := 145) (tgt := 149) cx dX9_isFormed_145 rfl ?_
        refine g_sub [0] [(0, .ref a0)] rfl ?_
        exact w_X9_isFormed_149 cx en h0 hf
      · refine g_sub [0] [(0, .ref a0)] rfl ?_
        exact w_X9_isFormed_148 cx en h0 hf
    · refine g_sub [0] [(0, .ref a0)] rfl ?_
      exact w_X9_isFormed_148 cx en h0 hf
  · refine g_sub [0] [(0, .ref a0)] rfl ?_
    exact w_X9_isFormed_148 cx en h0 hf
set_option maxHeartbeats 4000000 in
set_option maxRecDepth 100000 in
theorem w_X9_isFormed_33 {l : Launch} {w : Wp} {L : Ly} {E : Cx} {a0 : Nat} {R0 : Int32 × Mm} (cx : Ok w L E RX9 cX9_isFormed 3 1) (en : En w L E (some .boolean) R0) (h0 : LTramWiresModel w L (a0)) : ∀ (k : Nat) {M : Mm} {x1 : Int32}, l_X9_isFormed_33 a0 k M x1 = some R0 → G l w L E M [(0, .ref a0), (1, .int x1)] 33 [] := by
  intro k
  induction k with
  | zero =>
    intro M x1 hf
    exact absurd hf (by simp [l_X9_isFormed_33])
  | succ k ih =>
    intro M x1 hf
    unfold l_X9_isFormed_33 at hf
    refine g_aload_n (pc := 33) cx dX9_isFormed_33 rfl 0 rfl ?_
    refine fg_X9_179 (pc := 34) cx dX9_isFormed_34 h0 ?_
    refine g_if_lt (pc := 37) (tgt := 115) cx dX9_isFormed_37 rfl hf (fun hf => ?_) (fun hf => ?_)
    · exact w_X9_isFormed_115 cx en h0 hf
    · refine g_iload_n (pc := 40) cx dX9_isFormed_40 rfl 1 rfl ?_
      refine g_iconst (pc := 41) (v := 2) cx dX9_isFormed_41 (by decide) ?_
      refine g_icmp_ge (pc := 42) (tgt := 115) cx dX9_isFormed_42 rfl hf (fun hf => ?_) (fun hf => ?_)
      · refine g_aload_n (pc := 45) cx dX9_isFormed_45 rfl 0 rfl ?_
        refine fg_X9_173 (pc := 46) cx dX9_isFormed_46 h0 ?_
        refine g_aload_n (pc := 49) cx dX9_isFormed_49 rfl 0 rfl ?_
        refine fg_X9_132 (pc := 50) cx dX9_isFormed_50 h0 ?_
        refine g_icmp_ge (pc := 53) (tgt := 115) cx dX9_isFormed_53 rfl hf (fun hf => ?_) (fun hf => ?_)
        · refine g_aload_n (pc := 56) cx dX9_isFormed_56 rfl 0 rfl ?_
          refine fg_X9_19 (pc := 57) cx dX9_isFormed_57 h0 ?_
          refine g_aload_n (pc := 60) cx dX9_isFormed_60 rfl 0 rfl ?_
          refine fg_X9_173 (pc := 61) cx dX9_isFormed_61 h0 ?_
          refine g_iald (pc := 64) cx (LTramWiresModel_text h0) dX9_isFormed_64 hf (fun hf => ?_)
          refine g_bipush (pc := 65) (v := 48) cx dX9_isFormed_65 (by decide) ?_
          refine g_bipush (pc := 67) (v := 57) cx dX9_isFormed_67 (by decide) ?_
          obtain ⟨q3, M1, hc2, hf⟩ := obn_some2 hf
          refine g_callSi (pc := 69) [.int (M (a0 + 4) (ix (M a0 8))), .int 48, .int 57] [] cx lk_X9_25 (by decide) (c_X9_in hc2) dX9_isFormed_69 (Nat.le_of_ble_eq_true rfl) ?_
          refine g_if_eq (pc := 72) (tgt := 115) cx dX9_isFormed_72 rfl hf (fun hf => ?_) (fun hf => ?_)
          · exact w_X9_isFormed_115 cx en h0 hf
          · refine g_aload_n (pc := 75) cx dX9_isFormed_75 rfl 0 rfl ?_
            refine g_bipush (pc := 76) (v := 10) cx dX9_isFormed_76 (by decide) ?_
            refine g_aload_n (pc := 78) cx dX9_isFormed_78 rfl 0 rfl ?_
            refine fg_X9_182 (pc := 79) cx dX9_isFormed_79 h0 ?_
            refine g_imul (pc := 82) cx dX9_isFormed_82 ?_
            refine g_aload_n (pc := 83) cx dX9_isFormed_83 rfl 0 rfl ?_
            refine fg_X9_19 (pc := 84) cx dX9_isFormed_84 h0 ?_
            refine g_aload_n (pc := 87) cx dX9_isFormed_87 rfl 0 rfl ?_
            refine fg_X9_173 (pc := 88) cx dX9_isFormed_88 h0 ?_
            refine g_iald (pc := 91) cx (LTramWiresModel_text h0) dX9_isFormed_91 hf (fun hf => ?_)
            refine g_iadd (pc := 92) cx dX9_isFormed_92 ?_
            refine g_bipush (pc := 93) (v := 48) cx dX9_isFormed_93 (by decide) ?_
            refine g_isub (pc := 95) cx dX9_isFormed_95 ?_
            refine fp_X9_182 (pc := 96) cx dX9_isFormed_96 h0 hf (fun M4 hf => ?_)
            refine g_iinc (pc := 99) cx [(1, .int (x1 + 1)), (0, .ref a0)] dX9_isFormed_99 1 rfl rfl (by decide) rfl ?_
            refine g_aload_n (pc := 102) cx dX9_isFormed_102 rfl 1 rfl ?_
            refine g_dup (pc := 103) cx dX9_isFormed_103 rfl ?_
            refine fg_X9_173 (pc := 104) cx dX9_isFormed_104 h0 ?_
            refine g_iconst (pc := 107) (v := 1) cx dX9_isFormed_107 (by decide) ?_
            refine g_iadd (pc := 108) cx dX9_isFormed_108 ?_
            refine fp_X9_173 (pc := 109) cx dX9_isFormed_109 h0 hf (fun M5 hf => ?_)
            refine g_goto (pc := 112) (tgt := 33) cx dX9_isFormed_112 rfl ?_
            refine g_sub [1, 0] [(0, .ref a0), (1, .int (x1 + 1))] rfl ?_
            exact ih hf
        · exact w_X9_isFormed_115 cx en h0 hf
      · exact w_X9_isFormed_115 cx en h0 hf
set_option maxHeartbeats 4000000 in
set_option maxRecDepth 100000 in
theorem c_X9_isFormed {l : Launch} {w : Wp} {L : Ly} {a0 : Nat} {M : Mm} {R0 : Int32 × Mm} (h0 : LTramWiresModel w L (a0)) (hf : f_X9_isFormed a0 M = some R0) : CT l w L yX9_isFormed cX9_isFormed 3 (some .boolean) 1 [.ref a0] M R0 := by
  unfold f_X9_isFormed at hf
  refine CT_of pn_X9 (Nat.le_of_ble_eq_true rfl) (fun E cx en => ?_)
  have cx : Ok w L E RX9 cX9_isFormed 3 1 := cx
  show G l w L E M [(0, .ref a0)] 0 []
  refine g_aload_n (pc := 0) cx dX9_isFormed_0 rfl 0 rfl ?_
  refine g_aload_n (pc := 1) cx dX9_isFormed_1 rfl 0 rfl ?_
  refine fg_X9_19 (pc := 2) cx dX9_isFormed_2 h0 ?_
  refine g_aload_n (pc := 5) cx dX9_isFormed_5 rfl 0 rfl ?_
  refine fg_X9_173 (pc := 6) cx dX9_isFormed_6 h0 ?_
  refine g_iald (pc := 9) cx (LTramWiresModel_text h0) dX9_isFormed_9 hf (fun hf => ?_)
  obtain ⟨q3, M1, hc2, hf⟩ := obn_some2 hf
  refine g_callSi (pc := 10) [.int (M (a0 + 4) (ix (M a0 8)))] [.ref a0] cx lk_X9_176 (by decide) (c_X9_kindOf hc2) dX9_isFormed_10 (Nat.le_of_ble_eq_true rfl) ?_
  refine fp_X9_179 (pc := 13) cx dX9_isFormed_13 h0 hf (fun M4 hf => ?_)
  refine g_aload_n (pc := 16) cx dX9_isFormed_16 rfl 0 rfl ?_
  refine g_dup (pc := 17) cx dX9_isFormed_17 rfl ?_
  refine fg_X9_173 (pc := 18) cx dX9_isFormed_18 h0 ?_
  refine g_iconst (pc := 21) (v := 1) cx dX9_isFormed_21 (by decide) ?_
  refine g_iadd (pc := 22) cx dX9_isFormed_22 ?_
  refine fp_X9_173 (pc := 23) cx dX9_isFormed_23 h0 hf (fun M5 hf => ?_)
  refine g_iconst (pc := 26) (v := 0) cx dX9_isFormed_26 (by decide) ?_
  refine g_istore_n (pc := 27) cx [(1, .int 0), (0, .ref a0)] dX9_isFormed_27 rfl (by decide) rfl ?_
  refine g_aload_n (pc := 28) cx dX9_isFormed_28 rfl 1 rfl ?_
  refine g_iconst (pc := 29) (v := 0) cx dX9_isFormed_29 (by decide) ?_
  refine fp_X9_182 (pc := 30) cx dX9_isFormed_30 h0 hf (fun M6 hf => ?_)
  refine g_sub [1, 0] [(0, .ref a0), (1, .int 0)] rfl ?_
  exact w_X9_isFormed_33 cx en h0 FU hf
/-! X9_reasonOfText -/
def b_X9_reasonOfText_77 (a0 : Nat) (rc12 : Mm → Int32 → OR) (M : Mm) (s0 : Int32) : OR := if s0 = 0 then obn (f_X9_makes a0 M (M a0 9) (M a0 10)) fun _ M1 => (bnd (mst M1 a0 12 ((M1 a0 12) + 1)) fun M4 => rc12 M4 s0) else rc12 M s0
def b_X9_reasonOfText_107 (a0 : Nat) (M : Mm) (x1 : Int32) : OR := some (x1, M)
def l_X9_reasonOfText_12 (a0 : Nat) : Nat → Mm → Int32 → OR
  | 0, _, _ => none
  | k + 1, M, x1 => if (M a0 8) < (M a0 5) then if x1 = 0 then bnd (mst M a0 11 (M a0 8)) fun M1 => obn (f_X9_isFormed a0 M1) fun q4 M2 => (if q4 = 0 then b_X9_reasonOfText_77 a0 (l_X9_reasonOfText_12 a0 k) M2 1 else obn (f_X9_isPlace a0 M2 (M2 a0 9) (M2 a0 10)) fun q7 M5 => (if q7 = 0 then b_X9_reasonOfText_77 a0 (l_X9_reasonOfText_12 a0 k) M5 2 else obn (f_X9_refuses a0 M5 (M5 a0 9) (M5 a0 10)) fun q10 M8 => (b_X9_reasonOfText_77 a0 (l_X9_reasonOfText_12 a0 k) M8 q10))) else b_X9_reasonOfText_107 a0 M x1 else b_X9_reasonOfText_107 a0 M x1
def f_X9_reasonOfText (a0 : Nat) (M : Mm) : OR := bnd (mst M a0 8 0) fun M1 => bnd (mst M1 a0 12 0) fun M2 => l_X9_reasonOfText_12 a0 FU M2 0
set_option maxHeartbeats 4000000 in
set_option maxRecDepth 100000 in
theorem w_X9_reasonOfText_77 {l : Launch} {w : Wp} {L : Ly} {E : Cx} {a0 : Nat} {rc12 : Mm → Int32 → OR} {s0 : Int32} {R0 : Int32 × Mm} (cx : Ok w L E RX9 cX9_reasonOfText 2 6) (en : En w L E (some .int) R0) (h0 : LTramWiresModel w L (a0)) (hrc12 : ∀ (M : Mm) (x1 : Int32), rc12 M x1 = some R0 → G l w L E M [(0, .ref a0), (1, .int x1)] 12 []) {M : Mm} (hf : b_X9_reasonOfText_77 a0 rc12 M s0 = some R0) : G l w L E M [(0, .ref a0)] 77 [.int s0] := by
  unfold b_X9_reasonOfText_77 at hf
  refine g_istore_n (pc := 77) cx [(1, .int s0), (0, .ref a0)] dX9_reasonOfText_77 rfl (by decide) rfl ?_
  refine g_iload_n (pc := 78) cx dX9_reasonOfText_78 rfl 0 rfl ?_
  refine g_if_ne (pc := 79) (tgt := 12) cx dX9_reasonOfText_79 rfl hf (fun hf => ?_) (fun hf => ?_)
  · refine g_aload_n (pc := 82) cx dX9_reasonOfText_82 rfl 1 rfl ?_
    refine g_aload_n (pc := 83) cx dX9_reasonOfText_83 rfl 1 rfl ?_
    refine fg_X9_179 (pc := 84) cx dX9_reasonOfText_84 h0 ?_
    refine g_aload_n (pc := 87) cx dX9_reasonOfText_87 rfl 1 rfl ?_
    refine fg_X9_182 (pc := 88) cx dX9_reasonOfText_88 h0 ?_
    obtain ⟨q3, M1, hc2, hf⟩ := obn_some2 hf
    refine g_callVv (pc := 91) [.int (M a0 9), .int (M a0 10)] [] cx lk_X9_153 vw_X9 (LTramWiresModel_o h0) (by decide) (c_X9_makes h0 hc2) dX9_reasonOfText_91 (Nat.le_of_ble_eq_true rfl) ?_
    refine g_aload_n (pc := 94) cx dX9_reasonOfText_94 rfl 1 rfl ?_
    refine g_dup (pc := 95) cx dX9_reasonOfText_95 rfl ?_
    refine fg_X9_185 (pc := 96) cx dX9_reasonOfText_96 h0 ?_
    refine g_iconst (pc := 99) (v := 1) cx dX9_reasonOfText_99 (by decide) ?_
    refine g_iadd (pc := 100) cx dX9_reasonOfText_100 ?_
    refine fp_X9_185 (pc := 101) cx dX9_reasonOfText_101 h0 hf (fun M4 hf => ?_)
    refine g_goto (pc := 104) (tgt := 12) cx dX9_reasonOfText_104 rfl ?_
    refine g_sub [1, 0] [(0, .ref a0), (1, .int s0)] rfl ?_
    exact hrc12 _ _ hf
  · refine g_sub [1, 0] [(0, .ref a0), (1, .int s0)] rfl ?_
    exact hrc12 _ _ hf
set_option maxHeartbeats 4000000 in
set_option maxRecDepth 100000 in
theorem w_X9_reasonOfText_107 {l : Launch} {w : Wp} {L : Ly} {E : Cx} {a0 : Nat} {x1 : Int32} {R0 : Int32 × Mm} (cx : Ok w L E RX9 cX9_reasonOfText 2 6) (en : En w L E (some .int) R0) (h0 : LTramWiresModel w L (a0)) {M : Mm} (hf : b_X9_reasonOfText_107 a0 M x1 = some R0) : G l w L E M [(1, .int x1)] 107 [] := by
  unfold b_X9_reasonOfText_107 at hf
  refine g_iload_n (pc := 107) cx dX9_reasonOfText_107 rfl 0 rfl ?_
  exact g_iret (pc := 108) cx en dX9_reasonOfText_108 rfl hf
set_option maxHeartbeats 4000000 in
set_option maxRecDepth 100000 in
theorem w_X9_reasonOfText_12 {l : Launch} {w : Wp} {L : Ly} {E : Cx} {a0 : Nat} {R0 : Int32 × Mm} (cx : Ok w L E RX9 cX9_reasonOfText 2 6) (en : En w L E (some .int) R0) (h0 : LTramWiresModel w L (a0)) : ∀ (k : Nat) {M : Mm} {x1 : Int32}, l_X9_reasonOfText_12 a0 k M x1 = some R0 → G l w L E M [(0, .ref a0), (1, .int x1)] 12 [] := by
  intro k
  induction k with
  | zero =>
    intro M x1 hf
    exact absurd hf (by simp [l_X9_reasonOfText_12])
  | succ k ih =>
    intro M x1 hf
    unfold l_X9_reasonOfText_12 at hf
    refine g_aload_n (pc := 12) cx dX9_reasonOfText_12 rfl 0 rfl ?_
    refine fg_X9_173 (pc := 13) cx dX9_reasonOfText_13 h0 ?_
    refine g_aload_n (pc := 16) cx dX9_reasonOfText_16 rfl 0 rfl ?_
    refine fg_X9_132 (pc := 17) cx dX9_reasonOfText_17 h0 ?_
    refine g_icmp_ge (pc := 20) (tgt := 107) cx dX9_reasonOfText_20 rfl hf (fun hf => ?_) (fun hf => ?_)
    · refine g_iload_n (pc := 23) cx dX9_reasonOfText_23 rfl 1 rfl ?_
      refine g_if_ne (pc := 24) (tgt := 107) cx dX9_reasonOfText_24 rfl hf (fun hf => ?_) (fun hf => ?_)
      · refine g_aload_n (pc := 27) cx dX9_reasonOfText_27 rfl 0 rfl ?_
        refine g_aload_n (pc := 28) cx dX9_reasonOfText_28 rfl 0 rfl ?_
        refine fg_X9_173 (pc := 29) cx dX9_reasonOfText_29 h0 ?_
        refine fp_X9_188 (pc := 32) cx dX9_reasonOfText_32 h0 hf (fun M1 hf => ?_)
        refine g_aload_n (pc := 35) cx dX9_reasonOfText_35 rfl 0 rfl ?_
        obtain ⟨q4, M2, hc3, hf⟩ := obn_some2 hf
        refine g_callVi (pc := 36) [] [] cx lk_X9_191 vw_X9 (LTramWiresModel_o h0) (by decide) (c_X9_isFormed h0 hc3) dX9_reasonOfText_36 (Nat.le_of_ble_eq_true rfl) ?_
        refine g_if_ne (pc := 39) (tgt := 46) cx dX9_reasonOfText_39 rfl hf (fun hf => ?_) (fun hf => ?_)
        · refine g_iconst (pc := 42) (v := 1) cx dX9_reasonOfText_42 (by decide) ?_
          refine g_goto (pc := 43) (tgt := 77) cx dX9_reasonOfText_43 rfl ?_
          refine g_sub [0] [(0, .ref a0)] rfl ?_
          exact w_X9_reasonOfText_77 cx en h0 (fun _ _ hf => ih hf) hf
        · refine g_aload_n (pc := 46) cx dX9_reasonOfText_46 rfl 0 rfl ?_
          refine g_aload_n (pc := 47) cx dX9_reasonOfText_47 rfl 0 rfl ?_
          refine fg_X9_179 (pc := 48) cx dX9_reasonOfText_48 h0 ?_
          refine g_aload_n (pc := 51) cx dX9_reasonOfText_51 rfl 0 rfl ?_
          refine fg_X9_182 (pc := 52) cx dX9_reasonOfText_52 h0 ?_
          obtain ⟨q7, M5, hc6, hf⟩ := obn_some2 hf
          refine g_callVi (pc := 55) [.int (M2 a0 9), .int (M2 a0 10)] [] cx lk_X9_144 vw_X9 (LTramWiresModel_o h0) (by decide) (c_X9_isPlace h0 hc6) dX9_reasonOfText_55 (Nat.le_of_ble_eq_true rfl) ?_
          refine g_if_ne (pc := 58) (tgt := 65) cx dX9_reasonOfText_58 rfl hf (fun hf => ?_) (fun hf => ?_)
          · refine g_iconst (pc := 61) (v := 2) cx dX9_reasonOfText_61 (by decide) ?_
            refine g_goto (pc := 62) (tgt := 77) cx dX9_reasonOfText_62 rfl ?_
            refine g_sub [0] [(0, .ref a0)] rfl ?_
            exact w_X9_reasonOfText_77 cx en h0 (fun _ _ hf => ih hf) hf
          · refine g_aload_n (pc := 65) cx dX9_reasonOfText_65 rfl 0 rfl ?_
            refine g_aload_n (pc := 66) cx dX9_reasonOfText_66 rfl 0 rfl ?_
            refine fg_X9_179 (pc := 67) cx dX9_reasonOfText_67 h0 ?_
            refine g_aload_n (pc := 70) cx dX9_reasonOfText_70 rfl 0 rfl ?_
            refine fg_X9_182 (pc := 71) cx dX9_reasonOfText_71 h0 ?_
            obtain ⟨q10, M8, hc9, hf⟩ := obn_some2 hf
            refine g_callVi (pc := 74) [.int (M5 a0 9), .int (M5 a0 10)] [] cx lk_X9_147 vw_X9 (LTramWiresModel_o h0) (by decide) (c_X9_refuses h0 hc9) dX9_reasonOfText_74 (Nat.le_of_ble_eq_true rfl) ?_
            refine g_sub [0] [(0, .ref a0)] rfl ?_
            exact w_X9_reasonOfText_77 cx en h0 (fun _ _ hf => ih hf) hf
      · refine g_sub [1] [(1, .int x1)] rfl ?_
        exact w_X9_reasonOfText_107 cx en h0 hf
    · refine g_sub [1] [(1, .int x1)] rfl ?_
      exact w_X9_reasonOfText_107 cx en h0 hf
set_option maxHeartbeats 4000000 in
set_option maxRecDepth 100000 in
theorem c_X9_reasonOfText {l : Launch} {w : Wp} {L : Ly} {a0 : Nat} {M : Mm} {R0 : Int32 × Mm} (h0 : LTramWiresModel w L (a0)) (hf : f_X9_reasonOfText a0 M = some R0) : CT l w L yX9_reasonOfText cX9_reasonOfText 2 (some .int) 6 [.ref a0] M R0 := by
  unfold f_X9_reasonOfText at hf
  refine CT_of pn_X9 (Nat.le_of_ble_eq_true rfl) (fun E cx en => ?_)
  have cx : Ok w L E RX9 cX9_reasonOfText 2 6 := cx
  show G l w L E M [(0, .ref a0)] 0 []
  refine g_aload_n (pc := 0) cx dX9_reasonOfText_0 rfl 0 rfl ?_
  refine g_iconst (pc := 1) (v := 0) cx dX9_reasonOfText_1 (by decide) ?_
  refine fp_X9_173 (pc := 2) cx dX9_reasonOfText_2 h0 hf (fun M1 hf => ?_)
  refine g_aload_n (pc := 5) cx dX9_reasonOfText_5 rfl 0 rfl ?_
  refine g_iconst (pc := 6) (v := 0) cx dX9_reasonOfText_6 (by decide) ?_
  refine fp_X9_185 (pc := 7) cx dX9_reasonOfText_7 h0 hf (fun M2 hf => ?_)
  refine g_iconst (pc := 10) (v := 0) cx dX9_reasonOfText_10 (by decide) ?_
  refine g_istore_n (pc := 11) cx [(1, .int 0), (0, .ref a0)] dX9_reasonOfText_11 rfl (by decide) rfl ?_
  refine g_sub [1, 0] [(0, .ref a0), (1, .int 0)] rfl ?_
  exact w_X9_reasonOfText_12 cx en h0 FU hf
/-! X9_fault -/
def b_X9_fault_45 (a0 : Nat) (M : Mm) (s0 : Int32) : OR := some (s0, M)
def f_X9_fault (a0 : Nat) (M : Mm) (x1 : Int32) : OR := obn (f_X9_in M x1 0 1) fun q3 M1 => (if q3 = 0 then some ((-1), M1) else obn (f_X9_laysAside a0 M1) fun _ M4 => (obn (f_X9_reasonOfText a0 M4) fun q9 M7 => (obn (f_X9_bringsBack a0 M7) fun _ M10 => (if q9 = 0 then b_X9_fault_45 a0 M10 (-4) else if x1 = 0 then b_X9_fault_45 a0 M10 (M10 a0 11) else b_X9_fault_45 a0 M10 q9))))
set_option maxHeartbeats 4000000 in
set_option maxRecDepth 100000 in
theorem w_X9_fault_45 {l : Launch} {w : Wp} {L : Ly} {E : Cx} {a0 : Nat} {s0 : Int32} {R0 : Int32 × Mm} (cx : Ok w L E RX9 cX9_fault 3 7) (en : En w L E (some .int) R0) (h0 : LTramWiresModel w L (a0)) {M : Mm} (hf : b_X9_fault_45 a0 M s0 = some R0) : G l w L E M [] 45 [.int s0] := by
  unfold b_X9_fault_45 at hf
  exact g_iret (pc := 45) cx en dX9_fault_45 rfl hf
set_option maxHeartbeats 4000000 in
set_option maxRecDepth 100000 in
theorem c_X9_fault {l : Launch} {w : Wp} {L : Ly} {a0 : Nat} {M : Mm} {x1 : Int32} {R0 : Int32 × Mm} (h0 : LTramWiresModel w L (a0)) (hf : f_X9_fault a0 M x1 = some R0) : CT l w L yX9_fault cX9_fault 3 (some .int) 7 [.ref a0, .int x1] M R0 := by
  unfold f_X9_fault at hf
  refine CT_of pn_X9 (Nat.le_of_ble_eq_true rfl) (fun E cx en => ?_)
  have cx : Ok w L E RX9 cX9_fault 3 7 := cx
  show G l w L E M [(0, .ref a0), (1, .int x1)] 0 []
  refine g_iload_n (pc := 0) cx dX9_fault_0 rfl 1 rfl ?_
  refine g_iconst (pc := 1) (v := 0) cx dX9_fault_1 (by decide) ?_
  refine g_iconst (pc := 2) (v := 1) cx dX9_fault_2 (by decide) ?_
  obtain ⟨q3, M1, hc2, hf⟩ := obn_some2 hf
  refine g_callSi (pc := 3) [.int x1, .int 0, .int 1] [] cx lk_X9_25 (by decide) (c_X9_in hc2) dX9_fault_3 (Nat.le_of_ble_eq_true rfl) ?_
  refine g_if_ne (pc := 6) (tgt := 11) cx dX9_fault_6 rfl hf (fun hf => ?_) (fun hf => ?_)
  · refine g_iconst (pc := 9) (v := (-1)) cx dX9_fault_9 (by decide) ?_
    exact g_iret (pc := 10) cx en dX9_fault_10 rfl hf
  · refine g_aload_n (pc := 11) cx dX9_fault_11 rfl 0 rfl ?_
    obtain ⟨q6, M4, hc5, hf⟩ := obn_some2 hf
    refine g_callVv (pc := 12) [] [] cx lk_X9_166 vw_X9 (LTramWiresModel_o h0) (by decide) (c_X9_laysAside h0 hc5) dX9_fault_12 (Nat.le_of_ble_eq_true rfl) ?_
    refine g_aload_n (pc := 15) cx dX9_fault_15 rfl 0 rfl ?_
    obtain ⟨q9, M7, hc8, hf⟩ := obn_some2 hf
    refine g_callVi (pc := 16) [] [] cx lk_X9_195 vw_X9 (LTramWiresModel_o h0) (by decide) (c_X9_reasonOfText h0 hc8) dX9_fault_16 (Nat.le_of_ble_eq_true rfl) ?_
    refine g_istore_n (pc := 19) cx [(2, .int q9), (0, .ref a0), (1, .int x1)] dX9_fault_19 rfl (by decide) rfl ?_
    refine g_aload_n (pc := 20) cx dX9_fault_20 rfl 1 rfl ?_
    obtain ⟨q12, M10, hc11, hf⟩ := obn_some2 hf
    refine g_callVv (pc := 21) [] [] cx lk_X9_169 vw_X9 (LTramWiresModel_o h0) (by decide) (c_X9_bringsBack h0 hc11) dX9_fault_21 (Nat.le_of_ble_eq_true rfl) ?_
    refine g_iload_n (pc := 24) cx dX9_fault_24 rfl 0 rfl ?_
    refine g_if_ne (pc := 25) (tgt := 33) cx dX9_fault_25 rfl hf (fun hf => ?_) (fun hf => ?_)
    · refine g_bipush (pc := 28) (v := (-4)) cx dX9_fault_28 (by decide) ?_
      refine g_goto (pc := 30) (tgt := 45) cx dX9_fault_30 rfl ?_
      refine g_sub [] [] rfl ?_
      exact w_X9_fault_45 cx en h0 hf
    · refine g_iload_n (pc := 33) cx dX9_fault_33 rfl 2 rfl ?_
      refine g_if_ne (pc := 34) (tgt := 44) cx dX9_fault_34 rfl hf (fun hf => ?_) (fun hf => ?_)
      · refine g_aload_n (pc := 37) cx dX9_fault_37 rfl 1 rfl ?_
        refine fg_X9_188 (pc := 38) cx dX9_fault_38 h0 ?_
        refine g_goto (pc := 41) (tgt := 45) cx dX9_fault_41 rfl ?_
        refine g_sub [] [] rfl ?_
        exact w_X9_fault_45 cx en h0 hf
      · refine g_iload_n (pc := 44) cx dX9_fault_44 rfl 0 rfl ?_
        refine g_sub [] [] rfl ?_
        exact w_X9_fault_45 cx en h0 hf
/-! X9_play -/
def f_X9_play (a0 : Nat) (M : Mm) : OR := obn (f_X9_laysAside a0 M) fun _ M1 => (obn (f_X9_reasonOfText a0 M1) fun q6 M4 => (obn (f_X9_bringsBack a0 M4) fun _ M7 => (if q6 = 0 then obn (f_X9_records a0 M7) fun _ M10 => (obn (f_X9_reasonOfText a0 M10) fun q15 M13 => (some ((M13 a0 12), M13))) else some ((-2), M7))))
set_option maxHeartbeats 4000000 in
set_option maxRecDepth 100000 in
theorem c_X9_play {l : Launch} {w : Wp} {L : Ly} {a0 : Nat} {M : Mm} {R0 : Int32 × Mm} (h0 : LTramWiresModel w L (a0)) (hf : f_X9_play a0 M = some R0) : CT l w L yX9_play cX9_play 3 (some .int) 7 [.ref a0] M R0 := by
  unfold f_X9_play at hf
  refine CT_of pn_X9 (Nat.le_of_ble_eq_true rfl) (fun E cx en => ?_)
  have cx : Ok w L E RX9 cX9_play 3 7 := cx
  show G l w L E M [(0, .ref a0)] 0 []
  refine g_aload_n (pc := 0) cx dX9_play_0 rfl 0 rfl ?_
  obtain ⟨q3, M1, hc2, hf⟩ := obn_some2 hf
  refine g_callVv (pc := 1) [] [] cx lk_X9_166 vw_X9 (LTramWiresModel_o h0) (by decide) (c_X9_laysAside h0 hc2) dX9_play_1 (Nat.le_of_ble_eq_true rfl) ?_
  refine g_aload_n (pc := 4) cx dX9_play_4 rfl 0 rfl ?_
  obtain ⟨q6, M4, hc5, hf⟩ := obn_some2 hf
  refine g_callVi (pc := 5) [] [] cx lk_X9_195 vw_X9 (LTramWiresModel_o h0) (by decide) (c_X9_reasonOfText h0 hc5) dX9_play_5 (Nat.le_of_ble_eq_true rfl) ?_
  refine g_istore_n (pc := 8) cx [(1, .int q6), (0, .ref a0)] dX9_play_8 rfl (by decide) rfl ?_
  refine g_aload_n (pc := 9) cx dX9_play_9 rfl 1 rfl ?_
  obtain ⟨q9, M7, hc8, hf⟩ := obn_some2 hf
  refine g_callVv (pc := 10) [] [] cx lk_X9_169 vw_X9 (LTramWiresModel_o h0) (by decide) (c_X9_bringsBack h0 hc8) dX9_play_10 (Nat.le_of_ble_eq_true rfl) ?_
  refine g_iload_n (pc := 13) cx dX9_play_13 rfl 0 rfl ?_
  refine g_if_eq (pc := 14) (tgt := 20) cx dX9_play_14 rfl hf (fun hf => ?_) (fun hf => ?_)
  · refine g_aload_n (pc := 20) cx dX9_play_20 rfl 1 rfl ?_
    obtain ⟨q12, M10, hc11, hf⟩ := obn_some2 hf
    refine g_callVv (pc := 21) [] [] cx lk_X9_73 vw_X9 (LTramWiresModel_o h0) (by decide) (c_X9_records h0 hc11) dX9_play_21 (Nat.le_of_ble_eq_true rfl) ?_
    refine g_aload_n (pc := 24) cx dX9_play_24 rfl 1 rfl ?_
    obtain ⟨q15, M13, hc14, hf⟩ := obn_some2 hf
    refine g_callVi (pc := 25) [] [] cx lk_X9_195 vw_X9 (LTramWiresModel_o h0) (by decide) (c_X9_reasonOfText h0 hc14) dX9_play_25 (Nat.le_of_ble_eq_true rfl) ?_
    refine g_istore_n (pc := 28) cx [(2, .int q15), (1, .int q6), (0, .ref a0)] dX9_play_28 rfl (by decide) rfl ?_
    refine g_aload_n (pc := 29) cx dX9_play_29 rfl 2 rfl ?_
    refine fg_X9_185 (pc := 30) cx dX9_play_30 h0 ?_
    exact g_iret (pc := 33) cx en dX9_play_33 rfl hf
  · refine g_bipush (pc := 17) (v := (-2)) cx dX9_play_17 (by decide) ?_
    exact g_iret (pc := 19) cx en dX9_play_19 rfl hf
