/-! X4_begin -/
def f_X4_begin (a0 a1 : Nat) (M : Mm) : OR := obn (f_X7_copyFrom (a0 + 1) a1 M) fun _ M1 => (bnd (mst M1 a0 1 0) fun M4 => bnd (mst M4 a0 2 0) fun M5 => bnd (mst M5 a0 3 0) fun M6 => some (0, M6))
set_option maxHeartbeats 4000000 in
set_option maxRecDepth 100000 in
theorem c_X4_begin {l : Launch} {w : Wp} {L : Ly} {a0 a1 : Nat} {M : Mm} {R0 : Int32 × Mm} (h0 : LRehearsal w L (a0)) (h1 : LWires w L (a1)) (hf : f_X4_begin a0 a1 M = some R0) : CT l w L yX4_begin cX4_begin 2 none 3 [.ref a0, .ref a1] M R0 := by
  unfold f_X4_begin at hf
  refine CT_of pn_X4 (Nat.le_of_ble_eq_true rfl) (fun E cx en => ?_)
  have cx : Ok w L E RX4 cX4_begin 2 3 := cx
  show G l w L E M [(0, .ref a0), (1, .ref a1)] 0 []
  refine g_aload_n (pc := 0) cx dX4_begin_0 rfl 0 rfl ?_
  refine fg_X4_12 (pc := 1) cx dX4_begin_1 h0 ?_
  refine g_aload_n (pc := 4) cx dX4_begin_4 rfl 1 rfl ?_
  obtain ⟨q3, M1, hc2, hf⟩ := obn_some2 hf
  refine g_callVv (pc := 5) [.ref a1] [] cx lk_X4_74 vw_X7 (LWires_o (LRehearsal_wires h0)) (by decide) (c_X7_copyFrom (LRehearsal_wires h0) h1 hc2) dX4_begin_5 (Nat.le_of_ble_eq_true rfl) ?_
  refine g_aload_n (pc := 8) cx dX4_begin_8 rfl 0 rfl ?_
  refine g_iconst (pc := 9) (v := 0) cx dX4_begin_9 (by decide) ?_
  refine fp_X4_46 (pc := 10) cx dX4_begin_10 h0 hf (fun M4 hf => ?_)
  refine g_aload_n (pc := 13) cx dX4_begin_13 rfl 0 rfl ?_
  refine g_iconst (pc := 14) (v := 0) cx dX4_begin_14 (by decide) ?_
  refine fp_X4_49 (pc := 15) cx dX4_begin_15 h0 hf (fun M5 hf => ?_)
  refine g_aload_n (pc := 18) cx dX4_begin_18 rfl 0 rfl ?_
  refine g_iconst (pc := 19) (v := 0) cx dX4_begin_19 (by decide) ?_
  refine fp_X4_39 (pc := 20) cx dX4_begin_20 h0 hf (fun M6 hf => ?_)
  exact g_vret (pc := 23) cx en dX4_begin_23 hf
/-! X4_tryPlan -/
def l_X4_tryPlan_7 (a0 a1 a2 : Nat) : Nat → Mm → Int32 → OR
  | 0, _, _ => none
  | k + 1, M, x3 => if x3 < (M a2 0) then ckd x3 19 (ckd x3 19 (obn (f_X7_reasonAgainst (a0 + 1) M (M (a2 + 1) (ix x3)) (M (a2 + 2) (ix x3))) fun q3 M1 => (bnd (mst M1 a0 3 q3) fun M4 => if (M4 a0 3) = 0 then ckd x3 19 (ckd x3 19 (obn (f_X7_make (a0 + 1) M4 (M4 (a2 + 1) (ix x3)) (M4 (a2 + 2) (ix x3))) fun _ M5 => (bnd (mst M5 a0 1 ((M5 a0 1) + 1)) fun M8 => l_X4_tryPlan_7 a0 a1 a2 k M8 (x3 + 1)))) else some (0, M4)))) else some (0, M)
def f_X4_tryPlan (a0 a1 a2 : Nat) (M : Mm) : OR := obn (f_X4_begin a0 a1 M) fun _ M1 => (l_X4_tryPlan_7 a0 a1 a2 FU M1 0)
set_option maxHeartbeats 4000000 in
set_option maxRecDepth 100000 in
theorem w_X4_tryPlan_7 {l : Launch} {w : Wp} {L : Ly} {E : Cx} {a0 a1 a2 : Nat} {R0 : Int32 × Mm} (cx : Ok w L E RX4 cX4_tryPlan 4 5) (en : En w L E none R0) (h0 : LRehearsal w L (a0)) (h1 : LWires w L (a1)) (h2 : LPlan w L (a2)) : ∀ (k : Nat) {M : Mm} {x3 : Int32}, l_X4_tryPlan_7 a0 a1 a2 k M x3 = some R0 → G l w L E M [(0, .ref a0), (2, .ref a2), (3, .int x3)] 7 [] := by
  intro k
  induction k with
  | zero =>
    intro M x3 hf
    exact absurd hf (by simp [l_X4_tryPlan_7])
  | succ k ih =>
    intro M x3 hf
    unfold l_X4_tryPlan_7 at hf
    refine g_iload_n (pc := 7) cx dX4_tryPlan_7 rfl 2 rfl ?_
    refine g_aload_n (pc := 8) cx dX4_tryPlan_8 rfl 1 rfl ?_
    refine fg_X4_22 (pc := 9) cx dX4_tryPlan_9 h2 ?_
    refine g_icmp_ge (pc := 12) (tgt := 81) cx dX4_tryPlan_12 rfl hf (fun hf => ?_) (fun hf => ?_)
    · refine g_aload_n (pc := 15) cx dX4_tryPlan_15 rfl 0 rfl ?_
      refine g_aload_n (pc := 16) cx dX4_tryPlan_16 rfl 0 rfl ?_
      refine fg_X4_12 (pc := 17) cx dX4_tryPlan_17 h0 ?_
      refine g_aload_n (pc := 20) cx dX4_tryPlan_20 rfl 1 rfl ?_
      refine fg_X4_28 (pc := 21) cx dX4_tryPlan_21 h2 ?_
      refine g_iload_n (pc := 24) cx dX4_tryPlan_24 rfl 2 rfl ?_
      refine g_iald (pc := 25) cx (LPlan_kinds h2) dX4_tryPlan_25 hf (fun hf => ?_)
      refine g_aload_n (pc := 26) cx dX4_tryPlan_26 rfl 1 rfl ?_
      refine fg_X4_32 (pc := 27) cx dX4_tryPlan_27 h2 ?_
      refine g_iload_n (pc := 30) cx dX4_tryPlan_30 rfl 2 rfl ?_
      refine g_iald (pc := 31) cx (LPlan_places h2) dX4_tryPlan_31 hf (fun hf => ?_)
      obtain ⟨q3, M1, hc2, hf⟩ := obn_some2 hf
      refine g_callVi (pc := 32) [.int (M (a2 + 1) (ix x3)), .int (M (a2 + 2) (ix x3))] [.ref a0] cx lk_X4_35 vw_X7 (LWires_o (LRehearsal_wires h0)) (by decide) (c_X7_reasonAgainst (LRehearsal_wires h0) hc2) dX4_tryPlan_32 (Nat.le_of_ble_eq_true rfl) ?_
      refine fp_X4_39 (pc := 35) cx dX4_tryPlan_35 h0 hf (fun M4 hf => ?_)
      refine g_aload_n (pc := 38) cx dX4_tryPlan_38 rfl 0 rfl ?_
      refine fg_X4_39 (pc := 39) cx dX4_tryPlan_39 h0 ?_
      refine g_if_eq (pc := 42) (tgt := 46) cx dX4_tryPlan_42 rfl hf (fun hf => ?_) (fun hf => ?_)
      · refine g_aload_n (pc := 46) cx dX4_tryPlan_46 rfl 0 rfl ?_
        refine fg_X4_12 (pc := 47) cx dX4_tryPlan_47 h0 ?_
        refine g_aload_n (pc := 50) cx dX4_tryPlan_50 rfl 1 rfl ?_
        refine fg_X4_28 (pc := 51) cx dX4_tryPlan_51 h2 ?_
        refine g_iload_n (pc := 54) cx dX4_tryPlan_54 rfl 2 rfl ?_
        refine g_iald (pc := 55) cx (LPlan_kinds h2) dX4_tryPlan_55 hf (fun hf => ?_)
        refine g_aload_n (pc := 56) cx dX4_tryPlan_56 rfl 1 rfl ?_
        refine fg_X4_32 (pc := 57) cx dX4_tryPlan_57 h2 ?_
        refine g_iload_n (pc := 60) cx dX4_tryPlan_60 rfl 2 rfl ?_
        refine g_iald (pc := 61) cx (LPlan_places h2) dX4_tryPlan_61 hf (fun hf => ?_)
        obtain ⟨q7, M5, hc6, hf⟩ := obn_some2 hf
        refine g_callVv (pc := 62) [.int (M4 (a2 + 1) (ix x3)), .int (M4 (a2 + 2) (ix x3))] [] cx lk_X4_42 vw_X7 (LWires_o (LRehearsal_wires h0)) (by decide) (c_X7_make (LRehearsal_wires h0) hc6) dX4_tryPlan_62 (Nat.le_of_ble_eq_true rfl) ?_
        refine g_aload_n (pc := 65) cx dX4_tryPlan_65 rfl 0 rfl ?_
        refine g_dup (pc := 66) cx dX4_tryPlan_66 rfl ?_
        refine fg_X4_46 (pc := 67) cx dX4_tryPlan_67 h0 ?_
        refine g_iconst (pc := 70) (v := 1) cx dX4_tryPlan_70 (by decide) ?_
        refine g_iadd (pc := 71) cx dX4_tryPlan_71 ?_
        refine fp_X4_46 (pc := 72) cx dX4_tryPlan_72 h0 hf (fun M8 hf => ?_)
        refine g_iinc (pc := 75) cx [(3, .int (x3 + 1)), (0, .ref a0), (2, .ref a2)] dX4_tryPlan_75 2 rfl rfl (by decide) rfl ?_
        refine g_goto (pc := 78) (tgt := 7) cx dX4_tryPlan_78 rfl ?_
        refine g_sub [1, 2, 0] [(0, .ref a0), (2, .ref a2), (3, .int (x3 + 1))] rfl ?_
        exact ih hf
      · exact g_vret (pc := 45) cx en dX4_tryPlan_45 hf
    · exact g_vret (pc := 81) cx en dX4_tryPlan_81 hf
set_option maxHeartbeats 4000000 in
set_option maxRecDepth 100000 in
theorem c_X4_tryPlan {l : Launch} {w : Wp} {L : Ly} {a0 a1 a2 : Nat} {M : Mm} {R0 : Int32 × Mm} (h0 : LRehearsal w L (a0)) (h1 : LWires w L (a1)) (h2 : LPlan w L (a2)) (hf : f_X4_tryPlan a0 a1 a2 M = some R0) : CT l w L yX4_tryPlan cX4_tryPlan 4 none 5 [.ref a0, .ref a1, .ref a2] M R0 := by
  unfold f_X4_tryPlan at hf
  refine CT_of pn_X4 (Nat.le_of_ble_eq_true rfl) (fun E cx en => ?_)
  have cx : Ok w L E RX4 cX4_tryPlan 4 5 := cx
  show G l w L E M [(0, .ref a0), (1, .ref a1), (2, .ref a2)] 0 []
  refine g_aload_n (pc := 0) cx dX4_tryPlan_0 rfl 0 rfl ?_
  refine g_aload_n (pc := 1) cx dX4_tryPlan_1 rfl 1 rfl ?_
  obtain ⟨q3, M1, hc2, hf⟩ := obn_some2 hf
  refine g_callVv (pc := 2) [.ref a1] [] cx lk_X4_18 vw_X4 (LRehearsal_o h0) (by decide) (c_X4_begin h0 h1 hc2) dX4_tryPlan_2 (Nat.le_of_ble_eq_true rfl) ?_
  refine g_iconst (pc := 5) (v := 0) cx dX4_tryPlan_5 (by decide) ?_
  refine g_istore_n (pc := 6) cx [(3, .int 0), (0, .ref a0), (1, .ref a1), (2, .ref a2)] dX4_tryPlan_6 rfl (by decide) rfl ?_
  refine g_sub [1, 3, 0] [(0, .ref a0), (2, .ref a2), (3, .int 0)] rfl ?_
  exact w_X4_tryPlan_7 cx en h0 h1 h2 FU hf
/-! X4_tryText -/
def b_X4_tryText_88 (a0 a1 a2 : Nat) (rc7 : Mm → Int32 → OR) (M : Mm) (x3 : Int32) : OR := if (M a0 3) = 0 then obn (f_X7_make (a0 + 1) M (M a2 2) (M a2 3)) fun _ M1 => (bnd (mst M1 a0 1 ((M1 a0 1) + 1)) fun M4 => bnd (mst M4 a0 2 (M4 a2 4)) fun M5 => rc7 M5 (x3 + 1)) else some (0, M)
def b_X4_tryText_135 (a0 a1 a2 : Nat) (M : Mm) : OR := some (0, M)
def l_X4_tryText_7 (a0 a1 a2 : Nat) : Nat → Mm → Int32 → OR
  | 0, _, _ => none
  | k + 1, M, x3 => if x3 < 60 then if (M a0 2) < (M a2 0) then obn (f_X6_readStep a2 M (M a0 2)) fun q3 M1 => (if q3 = 0 then bnd (mst M1 a0 3 1) fun M4 => b_X4_tryText_88 a0 a1 a2 (l_X4_tryText_7 a0 a1 a2 k) M4 x3 else obn (f_X7_hasPlace (a0 + 1) M1 (M1 a2 2) (M1 a2 3)) fun q7 M5 => (if q7 = 0 then bnd (mst M5 a0 3 2) fun M8 => b_X4_tryText_88 a0 a1 a2 (l_X4_tryText_7 a0 a1 a2 k) M8 x3 else obn (f_X7_reasonAgainst (a0 + 1) M5 (M5 a2 2) (M5 a2 3)) fun q11 M9 => (bnd (mst M9 a0 3 q11) fun M12 => b_X4_tryText_88 a0 a1 a2 (l_X4_tryText_7 a0 a1 a2 k) M12 x3))) else b_X4_tryText_135 a0 a1 a2 M else b_X4_tryText_135 a0 a1 a2 M
def f_X4_tryText (a0 a1 a2 : Nat) (M : Mm) : OR := obn (f_X4_begin a0 a1 M) fun _ M1 => (l_X4_tryText_7 a0 a1 a2 FU M1 0)
set_option maxHeartbeats 4000000 in
set_option maxRecDepth 100000 in
theorem w_X4_tryText_88 {l : Launch} {w : Wp} {L : Ly} {E : Cx} {a0 a1 a2 : Nat} {rc7 : Mm → Int32 → OR} {x3 : Int32} {R0 : Int32 × Mm} (cx : Ok w L E RX4 cX4_tryText 4 5) (en : En w L E none R0) (h0 : LRehearsal w L (a0)) (h1 : LWires w L (a1)) (h2 : LText w L (a2)) (hrc7 : ∀ (M : Mm) (x3 : Int32), rc7 M x3 = some R0 → G l w L E M [(0, .ref a0), (2, .ref a2), (3, .int x3)] 7 []) {M : Mm} (hf : b_X4_tryText_88 a0 a1 a2 rc7 M x3 = some R0) : G l w L E M [(0, .ref a0), (2, .ref a2), (3, .int x3)] 88 [] := by
  unfold b_X4_tryText_88 at hf
  refine g_aload_n (pc := 88) cx dX4_tryText_88 rfl 0 rfl ?_
  refine fg_X4_39 (pc := 89) cx dX4_tryText_89 h0 ?_
  refine g_if_eq (pc := 92) (tgt := 96) cx dX4_tryText_92 rfl hf (fun hf => ?_) (fun hf => ?_)
  · refine g_aload_n (pc := 96) cx dX4_tryText_96 rfl 0 rfl ?_
    refine fg_X4_12 (pc := 97) cx dX4_tryText_97 h0 ?_
    refine g_aload_n (pc := 100) cx dX4_tryText_100 rfl 1 rfl ?_
    refine fg_X4_61 (pc := 101) cx dX4_tryText_101 h2 ?_
    refine g_aload_n (pc := 104) cx dX4_tryText_104 rfl 1 rfl ?_
    refine fg_X4_64 (pc := 105) cx dX4_tryText_105 h2 ?_
    obtain ⟨q3, M1, hc2, hf⟩ := obn_some2 hf
    refine g_callVv (pc := 108) [.int (M a2 2), .int (M a2 3)] [] cx lk_X4_42 vw_X7 (LWires_o (LRehearsal_wires h0)) (by decide) (c_X7_make (LRehearsal_wires h0) hc2) dX4_tryText_108 (Nat.le_of_ble_eq_true rfl) ?_
    refine g_aload_n (pc := 111) cx dX4_tryText_111 rfl 0 rfl ?_
    refine g_dup (pc := 112) cx dX4_tryText_112 rfl ?_
    refine fg_X4_46 (pc := 113) cx dX4_tryText_113 h0 ?_
    refine g_iconst (pc := 116) (v := 1) cx dX4_tryText_116 (by decide) ?_
    refine g_iadd (pc := 117) cx dX4_tryText_117 ?_
    refine fp_X4_46 (pc := 118) cx dX4_tryText_118 h0 hf (fun M4 hf => ?_)
    refine g_aload_n (pc := 121) cx dX4_tryText_121 rfl 0 rfl ?_
    refine g_aload_n (pc := 122) cx dX4_tryText_122 rfl 1 rfl ?_
    refine fg_X4_71 (pc := 123) cx dX4_tryText_123 h2 ?_
    refine fp_X4_49 (pc := 126) cx dX4_tryText_126 h0 hf (fun M5 hf => ?_)
    refine g_iinc (pc := 129) cx [(3, .int (x3 + 1)), (0, .ref a0), (2, .ref a2)] dX4_tryText_129 2 rfl rfl (by decide) rfl ?_
    refine g_goto (pc := 132) (tgt := 7) cx dX4_tryText_132 rfl ?_
    refine g_sub [1, 2, 0] [(0, .ref a0), (2, .ref a2), (3, .int (x3 + 1))] rfl ?_
    exact hrc7 _ _ hf
  · exact g_vret (pc := 95) cx en dX4_tryText_95 hf
set_option maxHeartbeats 4000000 in
set_option maxRecDepth 100000 in
theorem w_X4_tryText_135 {l : Launch} {w : Wp} {L : Ly} {E : Cx} {a0 a1 a2 : Nat} {R0 : Int32 × Mm} (cx : Ok w L E RX4 cX4_tryText 4 5) (en : En w L E none R0) (h0 : LRehearsal w L (a0)) (h1 : LWires w L (a1)) (h2 : LText w L (a2)) {M : Mm} (hf : b_X4_tryText_135 a0 a1 a2 M = some R0) : G l w L E M [] 135 [] := by
  unfold b_X4_tryText_135 at hf
  exact g_vret (pc := 135) cx en dX4_tryText_135 hf
set_option maxHeartbeats 4000000 in
set_option maxRecDepth 100000 in
theorem w_X4_tryText_7 {l : Launch} {w : Wp} {L : Ly} {E : Cx} {a0 a1 a2 : Nat} {R0 : Int32 × Mm} (cx : Ok w L E RX4 cX4_tryText 4 5) (en : En w L E none R0) (h0 : LRehearsal w L (a0)) (h1 : LWires w L (a1)) (h2 : LText w L (a2)) : ∀ (k : Nat) {M : Mm} {x3 : Int32}, l_X4_tryText_7 a0 a1 a2 k M x3 = some R0 → G l w L E M [(0, .ref a0), (2, .ref a2), (3, .int x3)] 7 [] := by
  intro k
  induction k with
  | zero =>
    intro M x3 hf
    exact absurd hf (by simp [l_X4_tryText_7])
  | succ k ih =>
    intro M x3 hf
    unfold l_X4_tryText_7 at hf
    refine g_iload_n (pc := 7) cx dX4_tryText_7 rfl 2 rfl ?_
    refine g_bipush (pc := 8) (v := 60) cx dX4_tryText_8 (by decide) ?_
    refine g_icmp_ge (pc := 10) (tgt := 135) cx dX4_tryText_10 rfl hf (fun hf => ?_) (fun hf => ?_)
    · refine g_aload_n (pc := 13) cx dX4_tryText_13 rfl 0 rfl ?_
      refine fg_X4_49 (pc := 14) cx dX4_tryText_14 h0 ?_
      refine g_aload_n (pc := 17) cx dX4_tryText_17 rfl 1 rfl ?_
      refine fg_X4_52 (pc := 18) cx dX4_tryText_18 h2 ?_
      refine g_icmp_ge (pc := 21) (tgt := 135) cx dX4_tryText_21 rfl hf (fun hf => ?_) (fun hf => ?_)
      · refine g_aload_n (pc := 24) cx dX4_tryText_24 rfl 1 rfl ?_
        refine g_aload_n (pc := 25) cx dX4_tryText_25 rfl 0 rfl ?_
        refine fg_X4_49 (pc := 26) cx dX4_tryText_26 h0 ?_
        obtain ⟨q3, M1, hc2, hf⟩ := obn_some2 hf
        refine g_callVi (pc := 29) [.int (M a0 2)] [] cx lk_X4_57 vw_X6 (LText_o h2) (by decide) (c_X6_readStep h2 hc2) dX4_tryText_29 (Nat.le_of_ble_eq_true rfl) ?_
        refine g_if_ne (pc := 32) (tgt := 43) cx dX4_tryText_32 rfl hf (fun hf => ?_) (fun hf => ?_)
        · refine g_aload_n (pc := 35) cx dX4_tryText_35 rfl 0 rfl ?_
          refine g_iconst (pc := 36) (v := 1) cx dX4_tryText_36 (by decide) ?_
          refine fp_X4_39 (pc := 37) cx dX4_tryText_37 h0 hf (fun M4 hf => ?_)
          refine g_goto (pc := 40) (tgt := 88) cx dX4_tryText_40 rfl ?_
          exact w_X4_tryText_88 cx en h0 h1 h2 (fun _ _ hf => ih hf) hf
        · refine g_aload_n (pc := 43) cx dX4_tryText_43 rfl 0 rfl ?_
          refine fg_X4_12 (pc := 44) cx dX4_tryText_44 h0 ?_
          refine g_aload_n (pc := 47) cx dX4_tryText_47 rfl 1 rfl ?_
          refine fg_X4_61 (pc := 48) cx dX4_tryText_48 h2 ?_
          refine g_aload_n (pc := 51) cx dX4_tryText_51 rfl 1 rfl ?_
          refine fg_X4_64 (pc := 52) cx dX4_tryText_52 h2 ?_
          obtain ⟨q7, M5, hc6, hf⟩ := obn_some2 hf
          refine g_callVi (pc := 55) [.int (M1 a2 2), .int (M1 a2 3)] [] cx lk_X4_67 vw_X7 (LWires_o (LRehearsal_wires h0)) (by decide) (c_X7_hasPlace (LRehearsal_wires h0) hc6) dX4_tryText_55 (Nat.le_of_ble_eq_true rfl) ?_
          refine g_if_ne (pc := 58) (tgt := 69) cx dX4_tryText_58 rfl hf (fun hf => ?_) (fun hf => ?_)
          · refine g_aload_n (pc := 61) cx dX4_tryText_61 rfl 0 rfl ?_
            refine g_iconst (pc := 62) (v := 2) cx dX4_tryText_62 (by decide) ?_
            refine fp_X4_39 (pc := 63) cx dX4_tryText_63 h0 hf (fun M8 hf => ?_)
            refine g_goto (pc := 66) (tgt := 88) cx dX4_tryText_66 rfl ?_
            exact w_X4_tryText_88 cx en h0 h1 h2 (fun _ _ hf => ih hf) hf
          · refine g_aload_n (pc := 69) cx dX4_tryText_69 rfl 0 rfl ?_
            refine g_aload_n (pc := 70) cx dX4_tryText_70 rfl 0 rfl ?_
            refine fg_X4_12 (pc := 71) cx dX4_tryText_71 h0 ?_
            refine g_aload_n (pc := 74) cx dX4_tryText_74 rfl 1 rfl ?_
            refine fg_X4_61 (pc := 75) cx dX4_tryText_75 h2 ?_
            refine g_aload_n (pc := 78) cx dX4_tryText_78 rfl 1 rfl ?_
            refine fg_X4_64 (pc := 79) cx dX4_tryText_79 h2 ?_
            obtain ⟨q11, M9, hc10, hf⟩ := obn_some2 hf
            refine g_callVi (pc := 82) [.int (M5 a2 2), .int (M5 a2 3)] [.ref a0] cx lk_X4_35 vw_X7 (LWires_o (LRehearsal_wires h0)) (by decide) (c_X7_reasonAgainst (LRehearsal_wires h0) hc10) dX4_tryText_82 (Nat.le_of_ble_eq_true rfl) ?_
            refine fp_X4_39 (pc := 85) cx dX4_tryText_85 h0 hf (fun M12 hf => ?_)
            exact w_X4_tryText_88 cx en h0 h1 h2 (fun _ _ hf => ih hf) hf
      · refine g_sub [] [] rfl ?_
        exact w_X4_tryText_135 cx en h0 h1 h2 hf
    · refine g_sub [] [] rfl ?_
      exact w_X4_tryText_135 cx en h0 h1 h2 hf
set_option maxHeartbeats 4000000 in
set_option maxRecDepth 100000 in
theorem c_X4_tryText {l : Launch} {w : Wp} {L : Ly} {a0 a1 a2 : Nat} {M : Mm} {R0 : Int32 × Mm} (h0 : LRehearsal w L (a0)) (h1 : LWires w L (a1)) (h2 : LText w L (a2)) (hf : f_X4_tryText a0 a1 a2 M = some R0) : CT l w L yX4_tryText cX4_tryText 4 none 5 [.ref a0, .ref a1, .ref a2] M R0 := by
  unfold f_X4_tryText at hf
  refine CT_of pn_X4 (Nat.le_of_ble_eq_true rfl) (fun E cx en => ?_)
  have cx : Ok w L E RX4 cX4_tryText 4 5 := cx
  show G l w L E M [(0, .ref a0), (1, .ref a1), (2, .ref a2)] 0 []
  refine g_aload_n (pc := 0) cx dX4_tryText_0 rfl 0 rfl ?_
  refine g_aload_n (pc := 1) cx dX4_tryText_1 rfl 1 rfl ?_
  obtain ⟨q3, M1, hc2, hf⟩ := obn_some2 hf
  refine g_callVv (pc := 2) [.ref a1] [] cx lk_X4_18 vw_X4 (LRehearsal_o h0) (by decide) (c_X4_begin h0 h1 hc2) dX4_tryText_2 (Nat.le_of_ble_eq_true rfl) ?_
  refine g_iconst (pc := 5) (v := 0) cx dX4_tryText_5 (by decide) ?_
  refine g_istore_n (pc := 6) cx [(3, .int 0), (0, .ref a0), (1, .ref a1), (2, .ref a2)] dX4_tryText_6 rfl (by decide) rfl ?_
  refine g_sub [1, 3, 0] [(0, .ref a0), (2, .ref a2), (3, .int 0)] rfl ?_
  exact w_X4_tryText_7 cx en h0 h1 h2 FU hf
/-! X8_section -/
def b_X8_section_65 (a0 : Nat) (M : Mm) (s1 : Int32) (s2 : Int32) : OR := obn (f_X7_addSection (a0 + 1) M s1 s2) fun q3 M1 => (some (q3, M1))
def b_X8_section_19 (a0 : Nat) (M : Mm) : OR := some ((-1), M)
def f_X8_section (a0 : Nat) (M : Mm) (x1 : Int32) (x2 : Int32) : OR := obn (f_X8_isOutside M x1 1 9) fun q3 M1 => (if q3 = 0 then obn (f_X8_isOutside M1 x2 0 1) fun q6 M4 => (if q6 = 0 then if (M4 ((a0 + 1) + 1) 0) < 10 then obn (f_X0_keep (a0 + 33) (a0 + 1) M4) fun _ M7 => (if x2 = 1 then b_X8_section_65 a0 M7 x1 2 else b_X8_section_65 a0 M7 x1 0) else some ((-3), M4) else b_X8_section_19 a0 M4) else b_X8_section_19 a0 M1)
set_option maxHeartbeats 4000000 in
set_option maxRecDepth 100000 in
theorem w_X8_section_65 {l : Launch} {w : Wp} {L : Ly} {E : Cx} {a0 : Nat} {s1 : Int32} {s2 : Int32} {R0 : Int32 × Mm} (cx : Ok w L E RX8 cX8_section 3 4) (en : En w L E (some .int) R0) (h0 : LTramWires w L (a0)) {M : Mm} (hf : b_X8_section_65 a0 M s1 s2 = some R0) : G l w L E M [] 65 [.int s2, .int s1, .ref (a0 + 1)] := by
  unfold b_X8_section_65 at hf
  obtain ⟨q3, M1, hc2, hf⟩ := obn_some2 hf
  refine g_callVi (pc := 65) [.int s1, .int s2] [] cx lk_X8_62 vw_X7 (LWires_o (LTramWires_now h0)) (by decide) (c_X7_addSection (LTramWires_now h0) hc2) dX8_section_65 (Nat.le_of_ble_eq_true rfl) ?_
  exact g_iret (pc := 68) cx en dX8_section_68 rfl hf
set_option maxHeartbeats 4000000 in
set_option maxRecDepth 100000 in
theorem w_X8_section_19 {l : Launch} {w : Wp} {L : Ly} {E : Cx} {a0 : Nat} {R0 : Int32 × Mm} (cx : Ok w L E RX8 cX8_section 3 4) (en : En w L E (some .int) R0) (h0 : LTramWires w L (a0)) {M : Mm} (hf : b_X8_section_19 a0 M = some R0) : G l w L E M [] 19 [] := by
  unfold b_X8_section_19 at hf
  refine g_iconst (pc := 19) (v := (-1)) cx dX8_section_19 (by decide) ?_
  exact g_iret (pc := 20) cx en dX8_section_20 rfl hf
set_option maxHeartbeats 4000000 in
set_option maxRecDepth 100000 in
theorem c_X8_section {l : Launch} {w : Wp} {L : Ly} {a0 : Nat} {M : Mm} {x1 : Int32} {x2 : Int32} {R0 : Int32 × Mm} (h0 : LTramWires w L (a0)) (hf : f_X8_section a0 M x1 x2 = some R0) : CT l w L yX8_section cX8_section 3 (some .int) 4 [.ref a0, .int x1, .int x2] M R0 := by
  unfold f_X8_section at hf
  refine CT_of pn_X8 (Nat.le_of_ble_eq_true rfl) (fun E cx en => ?_)
  have cx : Ok w L E RX8 cX8_section 3 4 := cx
  show G l w L E M [(0, .ref a0), (1, .int x1), (2, .int x2)] 0 []
  refine g_iload_n (pc := 0) cx dX8_section_0 rfl 1 rfl ?_
  refine g_iconst (pc := 1) (v := 1) cx dX8_section_1 (by decide) ?_
  refine g_bipush (pc := 2) (v := 9) cx dX8_section_2 (by decide) ?_
  obtain ⟨q3, M1, hc2, hf⟩ := obn_some2 hf
  refine g_callSi (pc := 4) [.int x1, .int 1, .int 9] [] cx lk_X8_44 (by decide) (c_X8_isOutside hc2) dX8_section_4 (Nat.le_of_ble_eq_true rfl) ?_
  refine g_if_ne (pc := 7) (tgt := 19) cx dX8_section_7 rfl hf (fun hf => ?_) (fun hf => ?_)
  · refine g_iload_n (pc := 10) cx dX8_section_10 rfl 2 rfl ?_
    refine g_iconst (pc := 11) (v := 0) cx dX8_section_11 (by decide) ?_
    refine g_iconst (pc := 12) (v := 1) cx dX8_section_12 (by decide) ?_
    obtain ⟨q6, M4, hc5, hf⟩ := obn_some2 hf
    refine g_callSi (pc := 13) [.int x2, .int 0, .int 1] [] cx lk_X8_44 (by decide) (c_X8_isOutside hc5) dX8_section_13 (Nat.le_of_ble_eq_true rfl) ?_
    refine g_if_eq (pc := 16) (tgt := 21) cx dX8_section_16 rfl hf (fun hf => ?_) (fun hf => ?_)
    · refine g_aload_n (pc := 21) cx dX8_section_21 rfl 0 rfl ?_
      refine fg_X8_10 (pc := 22) cx dX8_section_22 h0 ?_
      refine fg_X8_48 (pc := 25) cx dX8_section_25 (LTramWires_now h0) ?_
      refine fg_X8_52 (pc := 28) cx dX8_section_28 (LWires_net (LTramWires_now h0)) ?_
      refine g_bipush (pc := 31) (v := 10) cx dX8_section_31 (by decide) ?_
      refine g_icmp_lt (pc := 33) (tgt := 39) cx dX8_section_33 rfl hf (fun hf => ?_) (fun hf => ?_)
      · refine g_aload_n (pc := 39) cx dX8_section_39 rfl 0 rfl ?_
        refine fg_X8_19 (pc := 40) cx dX8_section_40 h0 ?_
        refine g_aload_n (pc := 43) cx dX8_section_43 rfl 0 rfl ?_
        refine fg_X8_10 (pc := 44) cx dX8_section_44 h0 ?_
        obtain ⟨q9, M7, hc8, hf⟩ := obn_some2 hf
        refine g_callVv (pc := 47) [.ref (a0 + 1)] [] cx lk_X8_58 vw_X0 (LHistory_o (LTramWires_history h0)) (by decide) (c_X0_keep (LTramWires_history h0) (LTramWires_now h0) hc8) dX8_section_47 (Nat.le_of_ble_eq_true rfl) ?_
        refine g_aload_n (pc := 50) cx dX8_section_50 rfl 0 rfl ?_
        refine fg_X8_10 (pc := 51) cx dX8_section_51 h0 ?_
        refine g_iload_n (pc := 54) cx dX8_section_54 rfl 1 rfl ?_
        refine g_iload_n (pc := 55) cx dX8_section_55 rfl 2 rfl ?_
        refine g_iconst (pc := 56) (v := 1) cx dX8_section_56 (by decide) ?_
        refine g_icmp_ne (pc := 57) (tgt := 64) cx dX8_section_57 rfl hf (fun hf => ?_) (fun hf => ?_)
        · refine g_iconst (pc := 60) (v := 2) cx dX8_section_60 (by decide) ?_
          refine g_goto (pc := 61) (tgt := 65) cx dX8_section_61 rfl ?_
          refine g_sub [] [] rfl ?_
          exact w_X8_section_65 cx en h0 hf
        · refine g_iconst (pc := 64) (v := 0) cx dX8_section_64 (by decide) ?_
          refine g_sub [] [] rfl ?_
          exact w_X8_section_65 cx en h0 hf
      · refine g_bipush (pc := 36) (v := (-3)) cx dX8_section_36 (by decide) ?_
        exact g_iret (pc := 38) cx en dX8_section_38 rfl hf
    · refine g_sub [] [] rfl ?_
      exact w_X8_section_19 cx en h0 hf
  · refine g_sub [] [] rfl ?_
    exact w_X8_section_19 cx en h0 hf
/-! X8_isolator -/
def b_X8_isolator_27 (a0 : Nat) (M : Mm) : OR := some ((-1), M)
def f_X8_isolator (a0 : Nat) (M : Mm) (x1 : Int32) (x2 : Int32) : OR := obn (f_X7_hasSection (a0 + 1) M x1) fun q3 M1 => (if q3 = 0 then b_X8_isolator_27 a0 M1 else obn (f_X7_hasSection (a0 + 1) M1 x2) fun q6 M4 => (if q6 = 0 then b_X8_isolator_27 a0 M4 else if x1 = x2 then b_X8_isolator_27 a0 M4 else obn (f_X7_joiningEndangers (a0 + 1) M4 x1 x2) fun q9 M7 => (if q9 = 0 then if (M7 ((a0 + 1) + 1) 1) < 16 then obn (f_X0_keep (a0 + 33) (a0 + 1) M7) fun _ M10 => (obn (f_X7_addIsolator (a0 + 1) M10 x1 x2) fun q15 M13 => (some (q15, M13))) else some ((-3), M7) else some ((-2), M7))))
set_option maxHeartbeats 4000000 in
set_option maxRecDepth 100000 in
theorem w_X8_isolator_27 {l : Launch} {w : Wp} {L : Ly} {E : Cx} {a0 : Nat} {R0 : Int32 × Mm} (cx : Ok w L E RX8 cX8_isolator 3 4) (en : En w L E (some .int) R0) (h0 : LTramWires w L (a0)) {M : Mm} (hf : b_X8_isolator_27 a0 M = some R0) : G l w L E M [] 27 [] := by
  unfold b_X8_isolator_27 at hf
  refine g_iconst (pc := 27) (v := (-1)) cx dX8_isolator_27 (by decide) ?_
  exact g_iret (pc := 28) cx en dX8_isolator_28 rfl hf
set_option maxHeartbeats 4000000 in
set_option maxRecDepth 100000 in
theorem c_X8_isolator {l : Launch} {w : Wp} {L : Ly} {a0 : Nat} {M : Mm} {x1 : Int32} {x2 : Int32} {R0 : Int32 × Mm} (h0 : LTramWires w L (a0)) (hf : f_X8_isolator a0 M x1 x2 = some R0) : CT l w L yX8_isolator cX8_isolator 3 (some .int) 4 [.ref a0, .int x1, .int x2] M R0 := by
  unfold f_X8_isolator at hf
  refine CT_of pn_X8 (Nat.le_of_ble_eq_true rfl) (fun E cx en => ?_)
  have cx : Ok w L E RX8 cX8_isolator 3 4 := cx
  show G l w L E M [(0, .ref a0), (1, .int x1), (2, .int x2)] 0 []
  refine g_aload_n (pc := 0) cx dX8_isolator_0 rfl 0 rfl ?_
  refine fg_X8_10 (pc := 1) cx dX8_isolator_1 h0 ?_
  refine g_iload_n (pc := 4) cx dX8_isolator_4 rfl 1 rfl ?_
  obtain ⟨q3, M1, hc2, hf⟩ := obn_some2 hf
  refine g_callVi (pc := 5) [.int x1] [] cx lk_X8_66 vw_X7 (LWires_o (LTramWires_now h0)) (by decide) (c_X7_hasSection (LTramWires_now h0) hc2) dX8_isolator_5 (Nat.le_of_ble_eq_true rfl) ?_
  refine g_if_eq (pc := 8) (tgt := 27) cx dX8_isolator_8 rfl hf (fun hf => ?_) (fun hf => ?_)
  · refine g_sub [] [] rfl ?_
    exact w_X8_isolator_27 cx en h0 hf
  · refine g_aload_n (pc := 11) cx dX8_isolator_11 rfl 0 rfl ?_
    refine fg_X8_10 (pc := 12) cx dX8_isolator_12 h0 ?_
    refine g_iload_n (pc := 15) cx dX8_isolator_15 rfl 2 rfl ?_
    obtain ⟨q6, M4, hc5, hf⟩ := obn_some2 hf
    refine g_callVi (pc := 16) [.int x2] [] cx lk_X8_66 vw_X7 (LWires_o (LTramWires_now h0)) (by decide) (c_X7_hasSection (LTramWires_now h0) hc5) dX8_isolator_16 (Nat.le_of_ble_eq_true rfl) ?_
    refine g_if_eq (pc := 19) (tgt := 27) cx dX8_isolator_19 rfl hf (fun hf => ?_) (fun hf => ?_)
    · refine g_sub [] [] rfl ?_
      exact w_X8_isolator_27 cx en h0 hf
    · refine g_iload_n (pc := 22) cx dX8_isolator_22 rfl 1 rfl ?_
      refine g_iload_n (pc := 23) cx dX8_isolator_23 rfl 2 rfl ?_
      refine g_icmp_ne (pc := 24) (tgt := 29) cx dX8_isolator_24 rfl hf (fun hf => ?_) (fun hf => ?_)
      · refine g_sub [] [] rfl ?_
        exact w_X8_isolator_27 cx en h0 hf
      · refine g_aload_n (pc := 29) cx dX8_isolator_29 rfl 0 rfl ?_
        refine fg_X8_10 (pc := 30) cx dX8_isolator_30 h0 ?_
        refine g_iload_n (pc := 33) cx dX8_isolator_33 rfl 1 rfl ?_
        refine g_iload_n (pc := 34) cx dX8_isolator_34 rfl 2 rfl ?_
        obtain ⟨q9, M7, hc8, hf⟩ := obn_some2 hf
        refine g_callVi (pc := 35) [.int x1, .int x2] [] cx lk_X8_70 vw_X7 (LWires_o (LTramWires_now h0)) (by decide) (c_X7_joiningEndangers (LTramWires_now h0) hc8) dX8_isolator_35 (Nat.le_of_ble_eq_true rfl) ?_
        refine g_if_eq (pc := 38) (tgt := 44) cx dX8_isolator_38 rfl hf (fun hf => ?_) (fun hf => ?_)
        · refine g_aload_n (pc := 44) cx dX8_isolator_44 rfl 0 rfl ?_
          refine fg_X8_10 (pc := 45) cx dX8_isolator_45 h0 ?_
          refine fg_X8_48 (pc := 48) cx dX8_isolator_48 (LTramWires_now h0) ?_
          refine fg_X8_74 (pc := 51) cx dX8_isolator_51 (LWires_net (LTramWires_now h0)) ?_
          refine g_bipush (pc := 54) (v := 16) cx dX8_isolator_54 (by decide) ?_
          refine g_icmp_lt (pc := 56) (tgt := 62) cx dX8_isolator_56 rfl hf (fun hf => ?_) (fun hf => ?_)
          · refine g_aload_n (pc := 62) cx dX8_isolator_62 rfl 0 rfl ?_
            refine fg_X8_19 (pc := 63) cx dX8_isolator_63 h0 ?_
            refine g_aload_n (pc := 66) cx dX8_isolator_66 rfl 0 rfl ?_
            refine fg_X8_10 (pc := 67) cx dX8_isolator_67 h0 ?_
            obtain ⟨q12, M10, hc11, hf⟩ := obn_some2 hf
            refine g_callVv (pc := 70) [.ref (a0 + 1)] [] cx lk_X8_58 vw_X0 (LHistory_o (LTramWires_history h0)) (by decide) (c_X0_keep (LTramWires_history h0) (LTramWires_now h0) hc11) dX8_isolator_70 (Nat.le_of_ble_eq_true rfl) ?_
            refine g_aload_n (pc := 73) cx dX8_isolator_73 rfl 0 rfl ?_
            refine fg_X8_10 (pc := 74) cx dX8_isolator_74 h0 ?_
            refine g_iload_n (pc := 77) cx dX8_isolator_77 rfl 1 rfl ?_
            refine g_iload_n (pc := 78) cx dX8_isolator_78 rfl 2 rfl ?_
            obtain ⟨q15, M13, hc14, hf⟩ := obn_some2 hf
            refine g_callVi (pc := 79) [.int x1, .int x2] [] cx lk_X8_77 vw_X7 (LWires_o (LTramWires_now h0)) (by decide) (c_X7_addIsolator (LTramWires_now h0) hc14) dX8_isolator_79 (Nat.le_of_ble_eq_true rfl) ?_
            exact g_iret (pc := 82) cx en dX8_isolator_82 rfl hf
          · refine g_bipush (pc := 59) (v := (-3)) cx dX8_isolator_59 (by decide) ?_
            exact g_iret (pc := 61) cx en dX8_isolator_61 rfl hf
        · refine g_bipush (pc := 41) (v := (-2)) cx dX8_isolator_41 (by decide) ?_
          exact g_iret (pc := 43) cx en dX8_isolator_43 rfl hf
/-! X8_pool -/
def f_X8_pool (a0 : Nat) (M : Mm) (x1 : Int32) : OR := obn (f_X8_isOutside M x1 0 40) fun q3 M1 => (if q3 = 0 then obn (f_X5_bridgingBuses ((a0 + 1) + 8) M1) fun q6 M4 => (if x1 < q6 then some ((-2), M4) else obn (f_X0_keep (a0 + 33) (a0 + 1) M4) fun _ M7 => (bnd (mst M7 ((a0 + 1) + 8) 1 x1) fun M10 => obn (f_X5_freeBuses ((a0 + 1) + 8) M10) fun q13 M11 => (some (q13, M11)))) else some ((-1), M1))
set_option maxHeartbeats 4000000 in
set_option maxRecDepth 100000 in
theorem c_X8_pool {l : Launch} {w : Wp} {L : Ly} {a0 : Nat} {M : Mm} {x1 : Int32} {R0 : Int32 × Mm} (h0 : LTramWires w L (a0)) (hf : f_X8_pool a0 M x1 = some R0) : CT l w L yX8_pool cX8_pool 2 (some .int) 4 [.ref a0, .int x1] M R0 := by
  unfold f_X8_pool at hf
  refine CT_of pn_X8 (Nat.le_of_ble_eq_true rfl) (fun E cx en => ?_)
  have cx : Ok w L E RX8 cX8_pool 2 4 := cx
  show G l w L E M [(0, .ref a0), (1, .int x1)] 0 []
  refine g_iload_n (pc := 0) cx dX8_pool_0 rfl 1 rfl ?_
  refine g_iconst (pc := 1) (v := 0) cx dX8_pool_1 (by decide) ?_
  refine g_bipush (pc := 2) (v := 40) cx dX8_pool_2 (by decide) ?_
  obtain ⟨q3, M1, hc2, hf⟩ := obn_some2 hf
  refine g_callSi (pc := 4) [.int x1, .int 0, .int 40] [] cx lk_X8_44 (by decide) (c_X8_isOutside hc2) dX8_pool_4 (Nat.le_of_ble_eq_true rfl) ?_
  refine g_if_eq (pc := 7) (tgt := 12) cx dX8_pool_7 rfl hf (fun hf => ?_) (fun hf => ?_)
  · refine g_aload_n (pc := 12) cx dX8_pool_12 rfl 0 rfl ?_
    refine fg_X8_10 (pc := 13) cx dX8_pool_13 h0 ?_
    refine fg_X8_80 (pc := 16) cx dX8_pool_16 (LTramWires_now h0) ?_
    obtain ⟨q6, M4, hc5, hf⟩ := obn_some2 hf
    refine g_callVi (pc := 19) [] [] cx lk_X8_84 vw_X5 (LService_o (LWires_service (LTramWires_now h0))) (by decide) (c_X5_bridgingBuses (LWires_service (LTramWires_now h0)) hc5) dX8_pool_19 (Nat.le_of_ble_eq_true rfl) ?_
    refine g_iload_n (pc := 22) cx dX8_pool_22 rfl 1 rfl ?_
    refine g_icmp_le (pc := 23) (tgt := 29) cx dX8_pool_23 rfl hf (fun hf => ?_) (fun hf => ?_)
    · refine g_bipush (pc := 26) (v := (-2)) cx dX8_pool_26 (by decide) ?_
      exact g_iret (pc := 28) cx en dX8_pool_28 rfl hf
    · refine g_aload_n (pc := 29) cx dX8_pool_29 rfl 0 rfl ?_
      refine fg_X8_19 (pc := 30) cx dX8_pool_30 h0 ?_
      refine g_aload_n (pc := 33) cx dX8_pool_33 rfl 0 rfl ?_
      refine fg_X8_10 (pc := 34) cx dX8_pool_34 h0 ?_
      obtain ⟨q9, M7, hc8, hf⟩ := obn_some2 hf
      refine g_callVv (pc := 37) [.ref (a0 + 1)] [] cx lk_X8_58 vw_X0 (LHistory_o (LTramWires_history h0)) (by decide) (c_X0_keep (LTramWires_history h0) (LTramWires_now h0) hc8) dX8_pool_37 (Nat.le_of_ble_eq_true rfl) ?_
      refine g_aload_n (pc := 40) cx dX8_pool_40 rfl 0 rfl ?_
      refine fg_X8_10 (pc := 41) cx dX8_pool_41 h0 ?_
      refine fg_X8_80 (pc := 44) cx dX8_pool_44 (LTramWires_now h0) ?_
      refine g_iload_n (pc := 47) cx dX8_pool_47 rfl 1 rfl ?_
      refine fp_X8_90 (pc := 48) cx dX8_pool_48 (LWires_service (LTramWires_now h0)) hf (fun M10 hf => ?_)
      refine g_aload_n (pc := 51) cx dX8_pool_51 rfl 0 rfl ?_
      refine fg_X8_10 (pc := 52) cx dX8_pool_52 h0 ?_
      refine fg_X8_80 (pc := 55) cx dX8_pool_55 (LTramWires_now h0) ?_
      obtain ⟨q13, M11, hc12, hf⟩ := obn_some2 hf
      refine g_callVi (pc := 58) [] [] cx lk_X8_93 vw_X5 (LService_o (LWires_service (LTramWires_now h0))) (by decide) (c_X5_freeBuses (LWires_service (LTramWires_now h0)) hc12) dX8_pool_58 (Nat.le_of_ble_eq_true rfl) ?_
      exact g_iret (pc := 61) cx en dX8_pool_61 rfl hf
  · refine g_iconst (pc := 10) (v := (-1)) cx dX8_pool_10 (by decide) ?_
    exact g_iret (pc := 11) cx en dX8_pool_11 rfl hf
/-! X8_sectionOf -/
def b_X8_sectionOf_200 (a0 : Nat) (M : Mm) (s0 : Int32) : OR := some (s0, M)
def f_X8_sectionOf (a0 : Nat) (M : Mm) (x1 : Int32) (x2 : Int32) : OR := obn (f_X7_hasSection (a0 + 1) M x1) fun q3 M1 => (if q3 = 0 then some ((-1), M1) else if x2 = 0 then ckd x1 10 (some ((M1 (((a0 + 1) + 8) + 1) (ix x1)), M1)) else if x2 = 1 then ckd x1 10 (some ((M1 (((a0 + 1) + 1) + 1) (ix x1)), M1)) else if x2 = 2 then ckd x1 10 (obn (f_X8_asNumber M1 (zb (M1 (((a0 + 1) + 1) + 6) (ix x1)))) fun q6 M4 => (some (q6, M4))) else if x2 = 3 then obn (f_X7_isLiveByLog (a0 + 1) M1 x1) fun q9 M7 => (obn (f_X8_asNumber M7 q9) fun q12 M10 => (some (q12, M10))) else if x2 = 4 then ckd x1 10 (obn (f_X8_asNumber M1 (zb (M1 (((a0 + 1) + 8) + 2) (ix x1)))) fun q15 M13 => (some (q15, M13))) else if x2 = 5 then ckd x1 10 (obn (f_X8_asNumber M1 (zb (M1 (((a0 + 1) + 8) + 3) (ix x1)))) fun q18 M16 => (some (q18, M16))) else if x2 = 6 then ckd x1 10 (obn (f_X8_asNumber M1 (zb (M1 (((a0 + 1) + 8) + 4) (ix x1)))) fun q21 M19 => (some (q21, M19))) else if x2 = 7 then ckd x1 10 (some ((M1 (((a0 + 1) + 8) + 7) (ix x1)), M1)) else if x2 = 8 then obn (f_X2_groupSize ((a0 + 1) + 1) M1 x1) fun q24 M22 => (some (q24, M22)) else if x2 = 9 then obn (f_X2_closedAt ((a0 + 1) + 1) M1 x1) fun q27 M25 => (some (q27, M25)) else if x2 = 10 then ckd x1 10 (if (zb (M1 (((a0 + 1) + 8) + 4) (ix x1))) = 0 then b_X8_sectionOf_200 a0 M1 (-4) else ckd x1 10 (b_X8_sectionOf_200 a0 M1 (M1 (((a0 + 1) + 8) + 6) (ix x1)))) else some ((-1), M1))
set_option maxHeartbeats 4000000 in
set_option maxRecDepth 100000 in
theorem w_X8_sectionOf_200 {l : Launch} {w : Wp} {L : Ly} {E : Cx} {a0 : Nat} {s0 : Int32} {R0 : Int32 × Mm} (cx : Ok w L E RX8 cX8_sectionOf 5 3) (en : En w L E (some .int) R0) (h0 : LTramWires w L (a0)) {M : Mm} (hf : b_X8_sectionOf_200 a0 M s0 = some R0) : G l w L E M [] 200 [.int s0] := by
  unfold b_X8_sectionOf_200 at hf
  exact g_iret (pc := 200) cx en dX8_sectionOf_200 rfl hf
set_option maxHeartbeats 4000000 in
set_option maxRecDepth 100000 in
theorem c_X8_sectionOf {l : Launch} {w : Wp} {L : Ly} {a0 : Nat} {M : Mm} {x1 : Int32} {x2 : Int32} {R0 : Int32 × Mm} (h0 : LTramWires w L (a0)) (hf : f_X8_sectionOf a0 M x1 x2 = some R0) : CT l w L yX8_sectionOf cX8_sectionOf 5 (some .int) 3 [.ref a0, .int x1, .int x2] M R0 := by
  unfold f_X8_sectionOf at hf
  refine CT_of pn_X8 (Nat.le_of_ble_eq_true rfl) (fun E cx en => ?_)
  have cx : Ok w L E RX8 cX8_sectionOf 5 3 := cx
  show G l w L E M [(0, .ref a0), (1, .int x1), (2, .int x2)] 0 []
  refine g_aload_n (pc := 0) cx dX8_sectionOf_0 rfl 0 rfl ?_
  refine fg_X8_10 (pc := 1) cx dX8_sectionOf_1 h0 ?_
  refine g_iload_n (pc := 4) cx dX8_sectionOf_4 rfl 1 rfl ?_
  obtain ⟨q3, M1, hc2, hf⟩ := obn_some2 hf
  refine g_callVi (pc := 5) [.int x1] [] cx lk_X8_66 vw_X7 (LWires_o (LTramWires_now h0)) (by decide) (c_X7_hasSection (LTramWires_now h0) hc2) dX8_sectionOf_5 (Nat.le_of_ble_eq_true rfl) ?_
  refine g_if_ne (pc := 8) (tgt := 13) cx dX8_sectionOf_8 rfl hf (fun hf => ?_) (fun hf => ?_)
  · refine g_iconst (pc := 11) (v := (-1)) cx dX8_sectionOf_11 (by decide) ?_
    exact g_iret (pc := 12) cx en dX8_sectionOf_12 rfl hf
  · refine g_aload_n (pc := 13) cx dX8_sectionOf_13 rfl 0 rfl ?_
    refine fg_X8_10 (pc := 14) cx dX8_sectionOf_14 h0 ?_
    refine fg_X8_48 (pc := 17) cx dX8_sectionOf_17 (LTramWires_now h0) ?_
    refine g_astore_n (pc := 20) cx [(3, .ref ((a0 + 1) + 1)), (0, .ref a0), (1, .int x1), (2, .int x2)] dX8_sectionOf_20 rfl (by decide) rfl ?_
    refine g_aload_n (pc := 21) cx dX8_sectionOf_21 rfl 1 rfl ?_
    refine fg_X8_10 (pc := 22) cx dX8_sectionOf_22 h0 ?_
    refine fg_X8_80 (pc := 25) cx dX8_sectionOf_25 (LTramWires_now h0) ?_
    refine g_astore (pc := 28) cx [(4, .ref ((a0 + 1) + 8)), (3, .ref ((a0 + 1) + 1)), (0, .ref a0), (1, .int x1), (2, .int x2)] dX8_sectionOf_28 (by decide) rfl ?_
    refine g_iload_n (pc := 30) cx dX8_sectionOf_30 rfl 4 rfl ?_
    refine g_swk (pc := 31) (kx := 0) (off := 57) (tgt := 88) cx dX8_sectionOf_31 (by decide) (by decide) (by decide) (by decide) hf (fun hf => ?_) (fun n0 hf => ?_)
    · refine g_aload (pc := 88) cx dX8_sectionOf_88 0 rfl ?_
      refine fg_X8_96 (pc := 90) cx dX8_sectionOf_90 (LWires_service (LTramWires_now h0)) ?_
      refine g_iload_n (pc := 93) cx dX8_sectionOf_93 rfl 3 rfl ?_
      refine g_iald (pc := 94) cx (LService_needed (LWires_service (LTramWires_now h0))) dX8_sectionOf_94 hf (fun hf => ?_)
      exact g_iret (pc := 95) cx en dX8_sectionOf_95 rfl hf
    refine g_swk (pc := 31) (kx := 1) (off := 65) (tgt := 96) cx dX8_sectionOf_31 (by decide) (by decide) (by decide) (by decide) hf (fun hf => ?_) (fun n1 hf => ?_)
    · refine g_aload_n (pc := 96) cx dX8_sectionOf_96 rfl 1 rfl ?_
      refine fg_X8_100 (pc := 97) cx dX8_sectionOf_97 (LWires_net (LTramWires_now h0)) ?_
      refine g_iload_n (pc := 100) cx dX8_sectionOf_100 rfl 3 rfl ?_
      refine g_iald (pc := 101) cx (LNet_feeder (LWires_net (LTramWires_now h0))) dX8_sectionOf_101 hf (fun hf => ?_)
      exact g_iret (pc := 102) cx en dX8_sectionOf_102 rfl hf
    refine g_swk (pc := 31) (kx := 2) (off := 72) (tgt := 103) cx dX8_sectionOf_31 (by decide) (by decide) (by decide) (by decide) hf (fun hf => ?_) (fun n2 hf => ?_)
    · refine g_aload_n (pc := 103) cx dX8_sectionOf_103 rfl 1 rfl ?_
      refine fg_X8_103 (pc := 104) cx dX8_sectionOf_104 (LWires_net (LTramWires_now h0)) ?_
      refine g_iload_n (pc := 107) cx dX8_sectionOf_107 rfl 3 rfl ?_
      refine g_zald (pc := 108) cx (LNet_live (LWires_net (LTramWires_now h0))) dX8_sectionOf_108 hf (fun hf => ?_)
      obtain ⟨q6, M4, hc5, hf⟩ := obn_some2 hf
      refine g_callSi (pc := 109) [.int (zb (M1 (((a0 + 1) + 1) + 6) (ix x1)))] [] cx lk_X8_107 (by decide) (c_X8_asNumber hc5) dX8_sectionOf_109 (Nat.le_of_ble_eq_true rfl) ?_
      exact g_iret (pc := 112) cx en dX8_sectionOf_112 rfl hf
    refine g_swk (pc := 31) (kx := 3) (off := 82) (tgt := 113) cx dX8_sectionOf_31 (by decide) (by decide) (by decide) (by decide) hf (fun hf => ?_) (fun n3 hf => ?_)
    · refine g_aload_n (pc := 113) cx dX8_sectionOf_113 rfl 2 rfl ?_
      refine fg_X8_10 (pc := 114) cx dX8_sectionOf_114 h0 ?_
      refine g_iload_n (pc := 117) cx dX8_sectionOf_117 rfl 3 rfl ?_
      obtain ⟨q9, M7, hc8, hf⟩ := obn_some2 hf
      refine g_callVi (pc := 118) [.int x1] [] cx lk_X8_111 vw_X7 (LWires_o (LTramWires_now h0)) (by decide) (c_X7_isLiveByLog (LTramWires_now h0) hc8) dX8_sectionOf_118 (Nat.le_of_ble_eq_true rfl) ?_
      obtain ⟨q12, M10, hc11, hf⟩ := obn_some2 hf
      refine g_callSi (pc := 121) [.int q9] [] cx lk_X8_107 (by decide) (c_X8_asNumber hc11) dX8_sectionOf_121 (Nat.le_of_ble_eq_true rfl) ?_
      exact g_iret (pc := 124) cx en dX8_sectionOf_124 rfl hf
    refine g_swk (pc := 31) (kx := 4) (off := 94) (tgt := 125) cx dX8_sectionOf_31 (by decide) (by decide) (by decide) (by decide) hf (fun hf => ?_) (fun n4 hf => ?_)
    · refine g_aload (pc := 125) cx dX8_sectionOf_125 0 rfl ?_
      refine fg_X8_114 (pc := 127) cx dX8_sectionOf_127 (LWires_service (LTramWires_now h0)) ?_
      refine g_iload_n (pc := 130) cx dX8_sectionOf_130 rfl 3 rfl ?_
      refine g_zald (pc := 131) cx (LService_bridged (LWires_service (LTramWires_now h0))) dX8_sectionOf_131 hf (fun hf => ?_)
      obtain ⟨q15, M13, hc14, hf⟩ := obn_some2 hf
      refine g_callSi (pc := 132) [.int (zb (M1 (((a0 + 1) + 8) + 2) (ix x1)))] [] cx lk_X8_107 (by decide) (c_X8_asNumber hc14) dX8_sectionOf_132 (Nat.le_of_ble_eq_true rfl) ?_
      exact g_iret (pc := 135) cx en dX8_sectionOf_135 rfl hf
    refine g_swk (pc := 31) (kx := 5) (off := 105) (tgt := 136) cx dX8_sectionOf_31 (by decide) (by decide) (by decide) (by decide) hf (fun hf => ?_) (fun n5 hf => ?_)
    · refine g_aload (pc := 136) cx dX8_sectionOf_136 0 rfl ?_
      refine fg_X8_117 (pc := 138) cx dX8_sectionOf_138 (LWires_service (LTramWires_now h0)) ?_
      refine g_iload_n (pc := 141) cx dX8_sectionOf_141 rfl 3 rfl ?_
      refine g_zald (pc := 142) cx (LService_earthed (LWires_service (LTramWires_now h0))) dX8_sectionOf_142 hf (fun hf => ?_)
      obtain ⟨q18, M16, hc17, hf⟩ := obn_some2 hf
      refine g_callSi (pc := 143) [.int (zb (M1 (((a0 + 1) + 8) + 3) (ix x1)))] [] cx lk_X8_107 (by decide) (c_X8_asNumber hc17) dX8_sectionOf_143 (Nat.le_of_ble_eq_true rfl) ?_
      exact g_iret (pc := 146) cx en dX8_sectionOf_146 rfl hf
    refine g_swk (pc := 31) (kx := 6) (off := 116) (tgt := 147) cx dX8_sectionOf_31 (by decide) (by decide) (by decide) (by decide) hf (fun hf => ?_) (fun n6 hf => ?_)
    · refine g_aload (pc := 147) cx dX8_sectionOf_147 0 rfl ?_
      refine fg_X8_120 (pc := 149) cx dX8_sectionOf_149 (LWires_service (LTramWires_now h0)) ?_
      refine g_iload_n (pc := 152) cx dX8_sectionOf_152 rfl 3 rfl ?_
      refine g_zald (pc := 153) cx (LService_gang (LWires_service (LTramWires_now h0))) dX8_sectionOf_153 hf (fun hf => ?_)
      obtain ⟨q21, M19, hc20, hf⟩ := obn_some2 hf
      refine g_callSi (pc := 154) [.int (zb (M1 (((a0 + 1) + 8) + 4) (ix x1)))] [] cx lk_X8_107 (by decide) (c_X8_asNumber hc20) dX8_sectionOf_154 (Nat.le_of_ble_eq_true rfl) ?_
      exact g_iret (pc := 157) cx en dX8_sectionOf_157 rfl hf
    refine g_swk (pc := 31) (kx := 7) (off := 127) (tgt := 158) cx dX8_sectionOf_31 (by decide) (by decide) (by decide) (by decide) hf (fun hf => ?_) (fun n7 hf => ?_)
    · refine g_aload (pc := 158) cx dX8_sectionOf_158 0 rfl ?_
      refine fg_X8_123 (pc := 160) cx dX8_sectionOf_160 (LWires_service (LTramWires_now h0)) ?_
      refine g_iload_n (pc := 163) cx dX8_sectionOf_163 rfl 3 rfl ?_
      refine g_iald (pc := 164) cx (LService_tools (LWires_service (LTramWires_now h0))) dX8_sectionOf_164 hf (fun hf => ?_)
      exact g_iret (pc := 165) cx en dX8_sectionOf_165 rfl hf
    refine g_swk (pc := 31) (kx := 8) (off := 135) (tgt := 166) cx dX8_sectionOf_31 (by decide) (by decide) (by decide) (by decide) hf (fun hf => ?_) (fun n8 hf => ?_)
    · refine g_aload_n (pc := 166) cx dX8_sectionOf_166 rfl 1 rfl ?_
      refine g_iload_n (pc := 167) cx dX8_sectionOf_167 rfl 3 rfl ?_
      obtain ⟨q24, M22, hc23, hf⟩ := obn_some2 hf
      refine g_callVi (pc := 168) [.int x1] [] cx lk_X8_126 vw_X2 (LNet_o (LWires_net (LTramWires_now h0))) (by decide) (c_X2_groupSize (LWires_net (LTramWires_now h0)) hc23) dX8_sectionOf_168 (Nat.le_of_ble_eq_true rfl) ?_
      exact g_iret (pc := 171) cx en dX8_sectionOf_171 rfl hf
    refine g_swk (pc := 31) (kx := 9) (off := 141) (tgt := 172) cx dX8_sectionOf_31 (by decide) (by decide) (by decide) (by decide) hf (fun hf => ?_) (fun n9 hf => ?_)
    · refine g_aload_n (pc := 172) cx dX8_sectionOf_172 rfl 1 rfl ?_
      refine g_iload_n (pc := 173) cx dX8_sectionOf_173 rfl 3 rfl ?_
      obtain ⟨q27, M25, hc26, hf⟩ := obn_some2 hf
      refine g_callVi (pc := 174) [.int x1] [] cx lk_X8_130 vw_X2 (LNet_o (LWires_net (LTramWires_now h0))) (by decide) (c_X2_closedAt (LWires_net (LTramWires_now h0)) hc26) dX8_sectionOf_174 (Nat.le_of_ble_eq_true rfl) ?_
      exact g_iret (pc := 177) cx en dX8_sectionOf_177 rfl hf
    refine g_swk (pc := 31) (kx := 10) (off := 147) (tgt := 178) cx dX8_sectionOf_31 (by decide) (by decide) (by decide) (by decide) hf (fun hf => ?_) (fun n10 hf => ?_)
    · refine g_aload (pc := 178) cx dX8_sectionOf_178 0 rfl ?_
      refine fg_X8_120 (pc := 180) cx dX8_sectionOf_180 (LWires_service (LTramWires_now h0)) ?_
      refine g_iload_n (pc := 183) cx dX8_sectionOf_183 rfl 3 rfl ?_
      refine g_zald (pc := 184) cx (LService_gang (LWires_service (LTramWires_now h0))) dX8_sectionOf_184 hf (fun hf => ?_)
      refine g_if_eq (pc := 185) (tgt := 198) cx dX8_sectionOf_185 rfl hf (fun hf => ?_) (fun hf => ?_)
      · refine g_bipush (pc := 198) (v := (-4)) cx dX8_sectionOf_198 (by decide) ?_
        refine g_sub [] [] rfl ?_
        exact w_X8_sectionOf_200 cx en h0 hf
      · refine g_aload (pc := 188) cx dX8_sectionOf_188 0 rfl ?_
        refine fg_X8_133 (pc := 190) cx dX8_sectionOf_190 (LWires_service (LTramWires_now h0)) ?_
        refine g_iload_n (pc := 193) cx dX8_sectionOf_193 rfl 3 rfl ?_
        refine g_iald (pc := 194) cx (LService_until (LWires_service (LTramWires_now h0))) dX8_sectionOf_194 hf (fun hf => ?_)
        refine g_goto (pc := 195) (tgt := 200) cx dX8_sectionOf_195 rfl ?_
        refine g_sub [] [] rfl ?_
        exact w_X8_sectionOf_200 cx en h0 hf
    refine g_swo (pc := 31) (tgt := 201) cx dX8_sectionOf_31 ?_ (by decide) ?_
    · have q0 := lv_neT n0 (a := 0) (by decide)
      have q1 := lv_neT n1 (a := 1) (by decide)
      have q2 := lv_neT n2 (a := 2) (by decide)
      have q3 := lv_neT n3 (a := 3) (by decide)
      have q4 := lv_neT n4 (a := 4) (by decide)
      have q5 := lv_neT n5 (a := 5) (by decide)
      have q6 := lv_neT n6 (a := 6) (by decide)
      have q7 := lv_neT n7 (a := 7) (by decide)
      have q8 := lv_neT n8 (a := 8) (by decide)
      have q9 := lv_neT n9 (a := 9) (by decide)
      have q10 := lv_neT n10 (a := 10) (by decide)
      omega
    · refine g_iconst (pc := 201) (v := (-1)) cx dX8_sectionOf_201 (by decide) ?_
      exact g_iret (pc := 202) cx en dX8_sectionOf_202 rfl hf
/-! X8_isolatorOf -/
def f_X8_isolatorOf (a0 : Nat) (M : Mm) (x1 : Int32) (x2 : Int32) : OR := obn (f_X7_hasIsolator (a0 + 1) M x1) fun q3 M1 => (if q3 = 0 then some ((-1), M1) else if x2 = 0 then ckd x1 16 (some ((M1 (((a0 + 1) + 1) + 2) (ix x1)), M1)) else if x2 = 1 then ckd x1 16 (some ((M1 (((a0 + 1) + 1) + 3) (ix x1)), M1)) else if x2 = 2 then ckd x1 16 (obn (f_X8_asNumber M1 (zb (M1 (((a0 + 1) + 1) + 4) (ix x1)))) fun q6 M4 => (some (q6, M4))) else if x2 = 3 then obn (f_X7_isClosedByLog (a0 + 1) M1 x1) fun q9 M7 => (obn (f_X8_asNumber M7 q9) fun q12 M10 => (some (q12, M10))) else if x2 = 4 then obn (f_X7_darkenedByOpening (a0 + 1) M1 x1) fun q15 M13 => (some (q15, M13)) else if x2 = 5 then obn (f_X7_litByClosing (a0 + 1) M1 x1) fun q18 M16 => (some (q18, M16)) else some ((-1), M1))
set_option maxHeartbeats 4000000 in
set_option maxRecDepth 100000 in
theorem c_X8_isolatorOf {l : Launch} {w : Wp} {L : Ly} {a0 : Nat} {M : Mm} {x1 : Int32} {x2 : Int32} {R0 : Int32 × Mm} (h0 : LTramWires w L (a0)) (hf : f_X8_isolatorOf a0 M x1 x2 = some R0) : CT l w L yX8_isolatorOf cX8_isolatorOf 4 (some .int) 4 [.ref a0, .int x1, .int x2] M R0 := by
  unfold f_X8_isolatorOf at hf
  refine CT_of pn_X8 (Nat.le_of_ble_eq_true rfl) (fun E cx en => ?_)
  have cx : Ok w L E RX8 cX8_isolatorOf 4 4 := cx
  show G l w L E M [(0, .ref a0), (1, .int x1), (2, .int x2)] 0 []
  refine g_aload_n (pc := 0) cx dX8_isolatorOf_0 rfl 0 rfl ?_
  refine fg_X8_10 (pc := 1) cx dX8_isolatorOf_1 h0 ?_
  refine g_iload_n (pc := 4) cx dX8_isolatorOf_4 rfl 1 rfl ?_
  obtain ⟨q3, M1, hc2, hf⟩ := obn_some2 hf
  refine g_callVi (pc := 5) [.int x1] [] cx lk_X8_136 vw_X7 (LWires_o (LTramWires_now h0)) (by decide) (c_X7_hasIsolator (LTramWires_now h0) hc2) dX8_isolatorOf_5 (Nat.le_of_ble_eq_true rfl) ?_
  refine g_if_ne (pc := 8) (tgt := 13) cx dX8_isolatorOf_8 rfl hf (fun hf => ?_) (fun hf => ?_)
  · refine g_iconst (pc := 11) (v := (-1)) cx dX8_isolatorOf_11 (by decide) ?_
    exact g_iret (pc := 12) cx en dX8_isolatorOf_12 rfl hf
  · refine g_aload_n (pc := 13) cx dX8_isolatorOf_13 rfl 0 rfl ?_
    refine fg_X8_10 (pc := 14) cx dX8_isolatorOf_14 h0 ?_
    refine fg_X8_48 (pc := 17) cx dX8_isolatorOf_17 (LTramWires_now h0) ?_
    refine g_astore_n (pc := 20) cx [(3, .ref ((a0 + 1) + 1)), (0, .ref a0), (1, .int x1), (2, .int x2)] dX8_isolatorOf_20 rfl (by decide) rfl ?_
    refine g_iload_n (pc := 21) cx dX8_isolatorOf_21 rfl 3 rfl ?_
    refine g_swk (pc := 22) (kx := 0) (off := 38) (tgt := 60) cx dX8_isolatorOf_22 (by decide) (by decide) (by decide) (by decide) hf (fun hf => ?_) (fun n0 hf => ?_)
    · refine g_aload_n (pc := 60) cx dX8_isolatorOf_60 rfl 0 rfl ?_
      refine fg_X8_139 (pc := 61) cx dX8_isolatorOf_61 (LWires_net (LTramWires_now h0)) ?_
      refine g_iload_n (pc := 64) cx dX8_isolatorOf_64 rfl 2 rfl ?_
      refine g_iald (pc := 65) cx (LNet_one (LWires_net (LTramWires_now h0))) dX8_isolatorOf_65 hf (fun hf => ?_)
      exact g_iret (pc := 66) cx en dX8_isolatorOf_66 rfl hf
    refine g_swk (pc := 22) (kx := 1) (off := 45) (tgt := 67) cx dX8_isolatorOf_22 (by decide) (by decide) (by decide) (by decide) hf (fun hf => ?_) (fun n1 hf => ?_)
    · refine g_aload_n (pc := 67) cx dX8_isolatorOf_67 rfl 0 rfl ?_
      refine fg_X8_142 (pc := 68) cx dX8_isolatorOf_68 (LWires_net (LTramWires_now h0)) ?_
      refine g_iload_n (pc := 71) cx dX8_isolatorOf_71 rfl 2 rfl ?_
      refine g_iald (pc := 72) cx (LNet_other (LWires_net (LTramWires_now h0))) dX8_isolatorOf_72 hf (fun hf => ?_)
      exact g_iret (pc := 73) cx en dX8_isolatorOf_73 rfl hf
    refine g_swk (pc := 22) (kx := 2) (off := 52) (tgt := 74) cx dX8_isolatorOf_22 (by decide) (by decide) (by decide) (by decide) hf (fun hf => ?_) (fun n2 hf => ?_)
    · refine g_aload_n (pc := 74) cx dX8_isolatorOf_74 rfl 0 rfl ?_
      refine fg_X8_145 (pc := 75) cx dX8_isolatorOf_75 (LWires_net (LTramWires_now h0)) ?_
      refine g_iload_n (pc := 78) cx dX8_isolatorOf_78 rfl 2 rfl ?_
      refine g_zald (pc := 79) cx (LNet_closed (LWires_net (LTramWires_now h0))) dX8_isolatorOf_79 hf (fun hf => ?_)
      obtain ⟨q6, M4, hc5, hf⟩ := obn_some2 hf
      refine g_callSi (pc := 80) [.int (zb (M1 (((a0 + 1) + 1) + 4) (ix x1)))] [] cx lk_X8_107 (by decide) (c_X8_asNumber hc5) dX8_isolatorOf_80 (Nat.le_of_ble_eq_true rfl) ?_
      exact g_iret (pc := 83) cx en dX8_isolatorOf_83 rfl hf
    refine g_swk (pc := 22) (kx := 3) (off := 62) (tgt := 84) cx dX8_isolatorOf_22 (by decide) (by decide) (by decide) (by decide) hf (fun hf => ?_) (fun n3 hf => ?_)
    · refine g_aload_n (pc := 84) cx dX8_isolatorOf_84 rfl 1 rfl ?_
      refine fg_X8_10 (pc := 85) cx dX8_isolatorOf_85 h0 ?_
      refine g_iload_n (pc := 88) cx dX8_isolatorOf_88 rfl 2 rfl ?_
      obtain ⟨q9, M7, hc8, hf⟩ := obn_some2 hf
      refine g_callVi (pc := 89) [.int x1] [] cx lk_X8_148 vw_X7 (LWires_o (LTramWires_now h0)) (by decide) (c_X7_isClosedByLog (LTramWires_now h0) hc8) dX8_isolatorOf_89 (Nat.le_of_ble_eq_true rfl) ?_
      obtain ⟨q12, M10, hc11, hf⟩ := obn_some2 hf
      refine g_callSi (pc := 92) [.int q9] [] cx lk_X8_107 (by decide) (c_X8_asNumber hc11) dX8_isolatorOf_92 (Nat.le_of_ble_eq_true rfl) ?_
      exact g_iret (pc := 95) cx en dX8_isolatorOf_95 rfl hf
    refine g_swk (pc := 22) (kx := 4) (off := 74) (tgt := 96) cx dX8_isolatorOf_22 (by decide) (by decide) (by decide) (by decide) hf (fun hf => ?_) (fun n4 hf => ?_)
    · refine g_aload_n (pc := 96) cx dX8_isolatorOf_96 rfl 1 rfl ?_
      refine fg_X8_10 (pc := 97) cx dX8_isolatorOf_97 h0 ?_
      refine g_iload_n (pc := 100) cx dX8_isolatorOf_100 rfl 2 rfl ?_
      obtain ⟨q15, M13, hc14, hf⟩ := obn_some2 hf
      refine g_callVi (pc := 101) [.int x1] [] cx lk_X8_151 vw_X7 (LWires_o (LTramWires_now h0)) (by decide) (c_X7_darkenedByOpening (LTramWires_now h0) hc14) dX8_isolatorOf_101 (Nat.le_of_ble_eq_true rfl) ?_
      exact g_iret (pc := 104) cx en dX8_isolatorOf_104 rfl hf
    refine g_swk (pc := 22) (kx := 5) (off := 83) (tgt := 105) cx dX8_isolatorOf_22 (by decide) (by decide) (by decide) (by decide) hf (fun hf => ?_) (fun n5 hf => ?_)
    · refine g_aload_n (pc := 105) cx dX8_isolatorOf_105 rfl 1 rfl ?_
      refine fg_X8_10 (pc := 106) cx dX8_isolatorOf_106 h0 ?_
      refine g_iload_n (pc := 109) cx dX8_isolatorOf_109 rfl 2 rfl ?_
      obtain ⟨q18, M16, hc17, hf⟩ := obn_some2 hf
      refine g_callVi (pc := 110) [.int x1] [] cx lk_X8_154 vw_X7 (LWires_o (LTramWires_now h0)) (by decide) (c_X7_litByClosing (LTramWires_now h0) hc17) dX8_isolatorOf_110 (Nat.le_of_ble_eq_true rfl) ?_
      exact g_iret (pc := 113) cx en dX8_isolatorOf_113 rfl hf
    refine g_swo (pc := 22) (tgt := 114) cx dX8_isolatorOf_22 ?_ (by decide) ?_
    · have q0 := lv_neT n0 (a := 0) (by decide)
      have q1 := lv_neT n1 (a := 1) (by decide)
      have q2 := lv_neT n2 (a := 2) (by decide)
      have q3 := lv_neT n3 (a := 3) (by decide)
      have q4 := lv_neT n4 (a := 4) (by decide)
      have q5 := lv_neT n5 (a := 5) (by decide)
      omega
    · refine g_iconst (pc := 114) (v := (-1)) cx dX8_isolatorOf_114 (by decide) ?_
      exact g_iret (pc := 115) cx en dX8_isolatorOf_115 rfl hf
/-! X8_count -/
def f_X8_count (a0 : Nat) (M : Mm) (x1 : Int32) : OR := if x1 = 0 then some ((M ((a0 + 1) + 1) 0), M) else if x1 = 1 then some ((M ((a0 + 1) + 1) 1), M) else if x1 = 2 then some ((M ((a0 + 1) + 8) 1), M) else if x1 = 3 then obn (f_X5_freeBuses ((a0 + 1) + 8) M) fun q3 M1 => (some (q3, M1)) else if x1 = 4 then obn (f_X8_countTrue (((a0 + 1) + 1) + 6) M) fun q6 M4 => (some (q6, M4)) else if x1 = 5 then obn (f_X8_countTrue (((a0 + 1) + 8) + 2) M) fun q9 M7 => (some (q9, M7)) else if x1 = 6 then obn (f_X8_countTrue (((a0 + 1) + 8) + 4) M) fun q12 M10 => (some (q12, M10)) else if x1 = 7 then obn (f_X5_allTools ((a0 + 1) + 8) M) fun q15 M13 => (some (q15, M13)) else if x1 = 8 then some ((M ((a0 + 1) + 8) 0), M) else if x1 = 9 then some ((M ((a0 + 1) + 16) 0), M) else if x1 = 10 then some ((M ((a0 + 1) + 16) 1), M) else if x1 = 11 then some ((M ((a0 + 1) + 8) 2), M) else if x1 = 12 then obn (f_X5_lateGangs ((a0 + 1) + 8) M) fun q18 M16 => (some (q18, M16)) else if x1 = 13 then obn (f_X2_groups ((a0 + 1) + 1) M) fun q21 M19 => (some (q21, M19)) else if x1 = 14 then some ((M (a0 + 33) 0), M) else if x1 = 15 then some ((M (a0 + 195) 0), M) else some ((-1), M)
set_option maxHeartbeats 4000000 in
set_option maxRecDepth 100000 in
theorem c_X8_count {l : Launch} {w : Wp} {L : Ly} {a0 : Nat} {M : Mm} {x1 : Int32} {R0 : Int32 × Mm} (h0 : LTramWires w L (a0)) (hf : f_X8_count a0 M x1 = some R0) : CT l w L yX8_count cX8_count 3 (some .int) 2 [.ref a0, .int x1] M R0 := by
  unfold f_X8_count at hf
  refine CT_of pn_X8 (Nat.le_of_ble_eq_true rfl) (fun E cx en => ?_)
  have cx : Ok w L E RX8 cX8_count 3 2 := cx
  show G l w L E M [(0, .ref a0), (1, .int x1)] 0 []
  refine g_aload_n (pc := 0) cx dX8_count_0 rfl 0 rfl ?_
  refine fg_X8_10 (pc := 1) cx dX8_count_1 h0 ?_
  refine fg_X8_80 (pc := 4) cx dX8_count_4 (LTramWires_now h0) ?_
  refine g_astore_n (pc := 7) cx [(2, .ref ((a0 + 1) + 8)), (0, .ref a0), (1, .int x1)] dX8_count_7 rfl (by decide) rfl ?_
  refine g_iload_n (pc := 8) cx dX8_count_8 rfl 2 rfl ?_
  refine g_swk (pc := 9) (kx := 0) (off := 79) (tgt := 88) cx dX8_count_9 (by decide) (by decide) (by decide) (by decide) hf (fun hf => ?_) (fun n0 hf => ?_)
  · refine g_aload_n (pc := 88) cx dX8_count_88 rfl 1 rfl ?_
    refine fg_X8_10 (pc := 89) cx dX8_count_89 h0 ?_
    refine fg_X8_48 (pc := 92) cx dX8_count_92 (LTramWires_now h0) ?_
    refine fg_X8_52 (pc := 95) cx dX8_count_95 (LWires_net (LTramWires_now h0)) ?_
    exact g_iret (pc := 98) cx en dX8_count_98 rfl hf
  refine g_swk (pc := 9) (kx := 1) (off := 90) (tgt := 99) cx dX8_count_9 (by decide) (by decide) (by decide) (by decide) hf (fun hf => ?_) (fun n1 hf => ?_)
  · refine g_aload_n (pc := 99) cx dX8_count_99 rfl 1 rfl ?_
    refine fg_X8_10 (pc := 100) cx dX8_count_100 h0 ?_
    refine fg_X8_48 (pc := 103) cx dX8_count_103 (LTramWires_now h0) ?_
    refine fg_X8_74 (pc := 106) cx dX8_count_106 (LWires_net (LTramWires_now h0)) ?_
    exact g_iret (pc := 109) cx en dX8_count_109 rfl hf
  refine g_swk (pc := 9) (kx := 2) (off := 101) (tgt := 110) cx dX8_count_9 (by decide) (by decide) (by decide) (by decide) hf (fun hf => ?_) (fun n2 hf => ?_)
  · refine g_aload_n (pc := 110) cx dX8_count_110 rfl 0 rfl ?_
    refine fg_X8_90 (pc := 111) cx dX8_count_111 (LWires_service (LTramWires_now h0)) ?_
    exact g_iret (pc := 114) cx en dX8_count_114 rfl hf
  refine g_swk (pc := 9) (kx := 3) (off := 106) (tgt := 115) cx dX8_count_9 (by decide) (by decide) (by decide) (by decide) hf (fun hf => ?_) (fun n3 hf => ?_)
  · refine g_aload_n (pc := 115) cx dX8_count_115 rfl 0 rfl ?_
    obtain ⟨q3, M1, hc2, hf⟩ := obn_some2 hf
    refine g_callVi (pc := 116) [] [] cx lk_X8_93 vw_X5 (LService_o (LWires_service (LTramWires_now h0))) (by decide) (c_X5_freeBuses (LWires_service (LTramWires_now h0)) hc2) dX8_count_116 (Nat.le_of_ble_eq_true rfl) ?_
    exact g_iret (pc := 119) cx en dX8_count_119 rfl hf
  refine g_swk (pc := 9) (kx := 4) (off := 111) (tgt := 120) cx dX8_count_9 (by decide) (by decide) (by decide) (by decide) hf (fun hf => ?_) (fun n4 hf => ?_)
  · refine g_aload_n (pc := 120) cx dX8_count_120 rfl 1 rfl ?_
    refine fg_X8_10 (pc := 121) cx dX8_count_121 h0 ?_
    refine fg_X8_48 (pc := 124) cx dX8_count_124 (LTramWires_now h0) ?_
    refine fg_X8_103 (pc := 127) cx dX8_count_127 (LWires_net (LTramWires_now h0)) ?_
    obtain ⟨q6, M4, hc5, hf⟩ := obn_some2 hf
    refine g_callSi (pc := 130) [.ref (((a0 + 1) + 1) + 6)] [] cx lk_X8_157 (by decide) (c_X8_countTrue (LNet_live (LWires_net (LTramWires_now h0))) hc5) dX8_count_130 (Nat.le_of_ble_eq_true rfl) ?_
    exact g_iret (pc := 133) cx en dX8_count_133 rfl hf
  refine g_swk (pc := 9) (kx := 5) (off := 125) (tgt := 134) cx dX8_count_9 (by decide) (by decide) (by decide) (by decide) hf (fun hf => ?_) (fun n5 hf => ?_)
  · refine g_aload_n (pc := 134) cx dX8_count_134 rfl 0 rfl ?_
    refine fg_X8_114 (pc := 135) cx dX8_count_135 (LWires_service (LTramWires_now h0)) ?_
    obtain ⟨q9, M7, hc8, hf⟩ := obn_some2 hf
    refine g_callSi (pc := 138) [.ref (((a0 + 1) + 8) + 2)] [] cx lk_X8_157 (by decide) (c_X8_countTrue (LService_bridged (LWires_service (LTramWires_now h0))) hc8) dX8_count_138 (Nat.le_of_ble_eq_true rfl) ?_
    exact g_iret (pc := 141) cx en dX8_count_141 rfl hf
  refine g_swk (pc := 9) (kx := 6) (off := 133) (tgt := 142) cx dX8_count_9 (by decide) (by decide) (by decide) (by decide) hf (fun hf => ?_) (fun n6 hf => ?_)
  · refine g_aload_n (pc := 142) cx dX8_count_142 rfl 0 rfl ?_
    refine fg_X8_120 (pc := 143) cx dX8_count_143 (LWires_service (LTramWires_now h0)) ?_
    obtain ⟨q12, M10, hc11, hf⟩ := obn_some2 hf
    refine g_callSi (pc := 146) [.ref (((a0 + 1) + 8) + 4)] [] cx lk_X8_157 (by decide) (c_X8_countTrue (LService_gang (LWires_service (LTramWires_now h0))) hc11) dX8_count_146 (Nat.le_of_ble_eq_true rfl) ?_
    exact g_iret (pc := 149) cx en dX8_count_149 rfl hf
  refine g_swk (pc := 9) (kx := 7) (off := 141) (tgt := 150) cx dX8_count_9 (by decide) (by decide) (by decide) (by decide) hf (fun hf => ?_) (fun n7 hf => ?_)
  · refine g_aload_n (pc := 150) cx dX8_count_150 rfl 0 rfl ?_
    obtain ⟨q15, M13, hc14, hf⟩ := obn_some2 hf
    refine g_callVi (pc := 151) [] [] cx lk_X8_161 vw_X5 (LService_o (LWires_service (LTramWires_now h0))) (by decide) (c_X5_allTools (LWires_service (LTramWires_now h0)) hc14) dX8_count_151 (Nat.le_of_ble_eq_true rfl) ?_
    exact g_iret (pc := 154) cx en dX8_count_154 rfl hf
  refine g_swk (pc := 9) (kx := 8) (off := 146) (tgt := 155) cx dX8_count_9 (by decide) (by decide) (by decide) (by decide) hf (fun hf => ?_) (fun n8 hf => ?_)
  · refine g_aload_n (pc := 155) cx dX8_count_155 rfl 0 rfl ?_
    refine fg_X8_164 (pc := 156) cx dX8_count_156 (LWires_service (LTramWires_now h0)) ?_
    exact g_iret (pc := 159) cx en dX8_count_159 rfl hf
  refine g_swk (pc := 9) (kx := 9) (off := 151) (tgt := 160) cx dX8_count_9 (by decide) (by decide) (by decide) (by decide) hf (fun hf => ?_) (fun n9 hf => ?_)
  · refine g_aload_n (pc := 160) cx dX8_count_160 rfl 1 rfl ?_
    refine fg_X8_10 (pc := 161) cx dX8_count_161 h0 ?_
    refine fg_X8_167 (pc := 164) cx dX8_count_164 (LTramWires_now h0) ?_
    refine fg_X8_171 (pc := 167) cx dX8_count_167 (LWires_log (LTramWires_now h0)) ?_
    exact g_iret (pc := 170) cx en dX8_count_170 rfl hf
  refine g_swk (pc := 9) (kx := 10) (off := 162) (tgt := 171) cx dX8_count_9 (by decide) (by decide) (by decide) (by decide) hf (fun hf => ?_) (fun n10 hf => ?_)
  · refine g_aload_n (pc := 171) cx dX8_count_171 rfl 1 rfl ?_
    refine fg_X8_10 (pc := 172) cx dX8_count_172 h0 ?_
    refine fg_X8_167 (pc := 175) cx dX8_count_175 (LTramWires_now h0) ?_
    refine fg_X8_176 (pc := 178) cx dX8_count_178 (LWires_log (LTramWires_now h0)) ?_
    exact g_iret (pc := 181) cx en dX8_count_181 rfl hf
  refine g_swk (pc := 9) (kx := 11) (off := 173) (tgt := 182) cx dX8_count_9 (by decide) (by decide) (by decide) (by decide) hf (fun hf => ?_) (fun n11 hf => ?_)
  · refine g_aload_n (pc := 182) cx dX8_count_182 rfl 0 rfl ?_
    refine fg_X8_179 (pc := 183) cx dX8_count_183 (LWires_service (LTramWires_now h0)) ?_
    exact g_iret (pc := 186) cx en dX8_count_186 rfl hf
  refine g_swk (pc := 9) (kx := 12) (off := 178) (tgt := 187) cx dX8_count_9 (by decide) (by decide) (by decide) (by decide) hf (fun hf => ?_) (fun n12 hf => ?_)
  · refine g_aload_n (pc := 187) cx dX8_count_187 rfl 0 rfl ?_
    obtain ⟨q18, M16, hc17, hf⟩ := obn_some2 hf
    refine g_callVi (pc := 188) [] [] cx lk_X8_182 vw_X5 (LService_o (LWires_service (LTramWires_now h0))) (by decide) (c_X5_lateGangs (LWires_service (LTramWires_now h0)) hc17) dX8_count_188 (Nat.le_of_ble_eq_true rfl) ?_
    exact g_iret (pc := 191) cx en dX8_count_191 rfl hf
  refine g_swk (pc := 9) (kx := 13) (off := 183) (tgt := 192) cx dX8_count_9 (by decide) (by decide) (by decide) (by decide) hf (fun hf => ?_) (fun n13 hf => ?_)
  · refine g_aload_n (pc := 192) cx dX8_count_192 rfl 1 rfl ?_
    refine fg_X8_10 (pc := 193) cx dX8_count_193 h0 ?_
    refine fg_X8_48 (pc := 196) cx dX8_count_196 (LTramWires_now h0) ?_
    obtain ⟨q21, M19, hc20, hf⟩ := obn_some2 hf
    refine g_callVi (pc := 199) [] [] cx lk_X8_185 vw_X2 (LNet_o (LWires_net (LTramWires_now h0))) (by decide) (c_X2_groups (LWires_net (LTramWires_now h0)) hc20) dX8_count_199 (Nat.le_of_ble_eq_true rfl) ?_
    exact g_iret (pc := 202) cx en dX8_count_202 rfl hf
  refine g_swk (pc := 9) (kx := 14) (off := 194) (tgt := 203) cx dX8_count_9 (by decide) (by decide) (by decide) (by decide) hf (fun hf => ?_) (fun n14 hf => ?_)
  · refine g_aload_n (pc := 203) cx dX8_count_203 rfl 1 rfl ?_
    refine fg_X8_19 (pc := 204) cx dX8_count_204 h0 ?_
    refine fg_X8_188 (pc := 207) cx dX8_count_207 (LTramWires_history h0) ?_
    exact g_iret (pc := 210) cx en dX8_count_210 rfl hf
  refine g_swk (pc := 9) (kx := 15) (off := 202) (tgt := 211) cx dX8_count_9 (by decide) (by decide) (by decide) (by decide) hf (fun hf => ?_) (fun n15 hf => ?_)
  · refine g_aload_n (pc := 211) cx dX8_count_211 rfl 1 rfl ?_
    refine fg_X8_26 (pc := 212) cx dX8_count_212 h0 ?_
    refine fg_X8_191 (pc := 215) cx dX8_count_215 (LTramWires_text h0) ?_
    exact g_iret (pc := 218) cx en dX8_count_218 rfl hf
  refine g_swo (pc := 9) (tgt := 219) cx dX8_count_9 ?_ (by decide) ?_
  · have q0 := lv_neT n0 (a := 0) (by decide)
    have q1 := lv_neT n1 (a := 1) (by decide)
    have q2 := lv_neT n2 (a := 2) (by decide)
    have q3 := lv_neT n3 (a := 3) (by decide)
    have q4 := lv_neT n4 (a := 4) (by decide)
    have q5 := lv_neT n5 (a := 5) (by decide)
    have q6 := lv_neT n6 (a := 6) (by decide)
    have q7 := lv_neT n7 (a := 7) (by decide)
    have q8 := lv_neT n8 (a := 8) (by decide)
    have q9 := lv_neT n9 (a := 9) (by decide)
    have q10 := lv_neT n10 (a := 10) (by decide)
    have q11 := lv_neT n11 (a := 11) (by decide)
    have q12 := lv_neT n12 (a := 12) (by decide)
    have q13 := lv_neT n13 (a := 13) (by decide)
    have q14 := lv_neT n14 (a := 14) (by decide)
    have q15 := lv_neT n15 (a := 15) (by decide)
    omega
  · refine g_iconst (pc := 219) (v := (-1)) cx dX8_count_219 (by decide) ?_
    exact g_iret (pc := 220) cx en dX8_count_220 rfl hf
/-! X8_undo -/
def f_X8_undo (a0 : Nat) (M : Mm) : OR := if 0 < (M (a0 + 33) 0) then obn (f_X0_restore (a0 + 33) (a0 + 1) M) fun _ M1 => (some ((M1 (a0 + 33) 0), M1)) else some ((-2), M)
set_option maxHeartbeats 4000000 in
set_option maxRecDepth 100000 in
theorem c_X8_undo {l : Launch} {w : Wp} {L : Ly} {a0 : Nat} {M : Mm} {R0 : Int32 × Mm} (h0 : LTramWires w L (a0)) (hf : f_X8_undo a0 M = some R0) : CT l w L yX8_undo cX8_undo 1 (some .int) 4 [.ref a0] M R0 := by
  unfold f_X8_undo at hf
  refine CT_of pn_X8 (Nat.le_of_ble_eq_true rfl) (fun E cx en => ?_)
  have cx : Ok w L E RX8 cX8_undo 1 4 := cx
  show G l w L E M [(0, .ref a0)] 0 []
  refine g_aload_n (pc := 0) cx dX8_undo_0 rfl 0 rfl ?_
  refine fg_X8_19 (pc := 1) cx dX8_undo_1 h0 ?_
  refine fg_X8_188 (pc := 4) cx dX8_undo_4 (LTramWires_history h0) ?_
  refine g_if_gt (pc := 7) (tgt := 13) cx dX8_undo_7 rfl hf (fun hf => ?_) (fun hf => ?_)
  · refine g_aload_n (pc := 13) cx dX8_undo_13 rfl 0 rfl ?_
    refine fg_X8_19 (pc := 14) cx dX8_undo_14 h0 ?_
    refine g_aload_n (pc := 17) cx dX8_undo_17 rfl 0 rfl ?_
    refine fg_X8_10 (pc := 18) cx dX8_undo_18 h0 ?_
    obtain ⟨q3, M1, hc2, hf⟩ := obn_some2 hf
    refine g_callVv (pc := 21) [.ref (a0 + 1)] [] cx lk_X8_192 vw_X0 (LHistory_o (LTramWires_history h0)) (by decide) (c_X0_restore (LTramWires_history h0) (LTramWires_now h0) hc2) dX8_undo_21 (Nat.le_of_ble_eq_true rfl) ?_
    refine g_aload_n (pc := 24) cx dX8_undo_24 rfl 0 rfl ?_
    refine fg_X8_19 (pc := 25) cx dX8_undo_25 h0 ?_
    refine fg_X8_188 (pc := 28) cx dX8_undo_28 (LTramWires_history h0) ?_
    exact g_iret (pc := 31) cx en dX8_undo_31 rfl hf
  · refine g_bipush (pc := 10) (v := (-2)) cx dX8_undo_10 (by decide) ?_
    exact g_iret (pc := 12) cx en dX8_undo_12 rfl hf
/-! X8_refusal -/
def b_X8_refusal_25 (a0 : Nat) (M : Mm) (s0 : Int32) : OR := some (s0, M)
def f_X8_refusal (a0 : Nat) (M : Mm) (x1 : Int32) (x2 : Int32) : OR := obn (f_X7_hasPlace (a0 + 1) M x1 x2) fun q3 M1 => (if q3 = 0 then b_X8_refusal_25 a0 M1 (-1) else obn (f_X7_reasonAgainst (a0 + 1) M1 x1 x2) fun q6 M4 => (b_X8_refusal_25 a0 M4 q6))
set_option maxHeartbeats 4000000 in
set_option maxRecDepth 100000 in
theorem w_X8_refusal_25 {l : Launch} {w : Wp} {L : Ly} {E : Cx} {a0 : Nat} {s0 : Int32} {R0 : Int32 × Mm} (cx : Ok w L E RX8 cX8_refusal 3 5) (en : En w L E (some .int) R0) (h0 : LTramWires w L (a0)) {M : Mm} (hf : b_X8_refusal_25 a0 M s0 = some R0) : G l w L E M [] 25 [.int s0] := by
  unfold b_X8_refusal_25 at hf
  exact g_iret (pc := 25) cx en dX8_refusal_25 rfl hf
set_option maxHeartbeats 4000000 in
set_option maxRecDepth 100000 in
theorem c_X8_refusal {l : Launch} {w : Wp} {L : Ly} {a0 : Nat} {M : Mm} {x1 : Int32} {x2 : Int32} {R0 : Int32 × Mm} (h0 : LTramWires w L (a0)) (hf : f_X8_refusal a0 M x1 x2 = some R0) : CT l w L yX8_refusal cX8_refusal 3 (some .int) 5 [.ref a0, .int x1, .int x2] M R0 := by
  unfold f_X8_refusal at hf
  refine CT_of pn_X8 (Nat.le_of_ble_eq_true rfl) (fun E cx en => ?_)
  have cx : Ok w L E RX8 cX8_refusal 3 5 := cx
  show G l w L E M [(0, .ref a0), (1, .int x1), (2, .int x2)] 0 []
  refine g_aload_n (pc := 0) cx dX8_refusal_0 rfl 0 rfl ?_
  refine fg_X8_10 (pc := 1) cx dX8_refusal_1 h0 ?_
  refine g_iload_n (pc := 4) cx dX8_refusal_4 rfl 1 rfl ?_
  refine g_iload_n (pc := 5) cx dX8_refusal_5 rfl 2 rfl ?_
  obtain ⟨q3, M1, hc2, hf⟩ := obn_some2 hf
  refine g_callVi (pc := 6) [.int x1, .int x2] [] cx lk_X8_195 vw_X7 (LWires_o (LTramWires_now h0)) (by decide) (c_X7_hasPlace (LTramWires_now h0) hc2) dX8_refusal_6 (Nat.le_of_ble_eq_true rfl) ?_
  refine g_if_eq (pc := 9) (tgt := 24) cx dX8_refusal_9 rfl hf (fun hf => ?_) (fun hf => ?_)
  · refine g_iconst (pc := 24) (v := (-1)) cx dX8_refusal_24 (by decide) ?_
    refine g_sub [] [] rfl ?_
    exact w_X8_refusal_25 cx en h0 hf
  · refine g_aload_n (pc := 12) cx dX8_refusal_12 rfl 0 rfl ?_
    refine fg_X8_10 (pc := 13) cx dX8_refusal_13 h0 ?_
    refine g_iload_n (pc := 16) cx dX8_refusal_16 rfl 1 rfl ?_
    refine g_iload_n (pc := 17) cx dX8_refusal_17 rfl 2 rfl ?_
    obtain ⟨q6, M4, hc5, hf⟩ := obn_some2 hf
    refine g_callVi (pc := 18) [.int x1, .int x2] [] cx lk_X8_198 vw_X7 (LWires_o (LTramWires_now h0)) (by decide) (c_X7_reasonAgainst (LTramWires_now h0) hc5) dX8_refusal_18 (Nat.le_of_ble_eq_true rfl) ?_
    refine g_goto (pc := 21) (tgt := 25) cx dX8_refusal_21 rfl ?_
    refine g_sub [] [] rfl ?_
    exact w_X8_refusal_25 cx en h0 hf
/-! X8_step -/
def f_X8_step (a0 : Nat) (M : Mm) (x1 : Int32) (x2 : Int32) : OR := obn (f_X7_hasPlace (a0 + 1) M x1 x2) fun q3 M1 => (if q3 = 0 then some ((-1), M1) else obn (f_X7_reasonAgainst (a0 + 1) M1 x1 x2) fun q6 M4 => (if q6 = 0 then obn (f_X0_keep (a0 + 33) (a0 + 1) M4) fun _ M7 => (obn (f_X7_make (a0 + 1) M7 x1 x2) fun _ M10 => (obn (f_X8_countTrue (((a0 + 1) + 1) + 6) M10) fun q15 M13 => (some (q15, M13)))) else some ((-2), M4)))
set_option maxHeartbeats 4000000 in
set_option maxRecDepth 100000 in
theorem c_X8_step {l : Launch} {w : Wp} {L : Ly} {a0 : Nat} {M : Mm} {x1 : Int32} {x2 : Int32} {R0 : Int32 × Mm} (h0 : LTramWires w L (a0)) (hf : f_X8_step a0 M x1 x2 = some R0) : CT l w L yX8_step cX8_step 3 (some .int) 5 [.ref a0, .int x1, .int x2] M R0 := by
  unfold f_X8_step at hf
  refine CT_of pn_X8 (Nat.le_of_ble_eq_true rfl) (fun E cx en => ?_)
  have cx : Ok w L E RX8 cX8_step 3 5 := cx
  show G l w L E M [(0, .ref a0), (1, .int x1), (2, .int x2)] 0 []
  refine g_aload_n (pc := 0) cx dX8_step_0 rfl 0 rfl ?_
  refine fg_X8_10 (pc := 1) cx dX8_step_1 h0 ?_
  refine g_iload_n (pc := 4) cx dX8_step_4 rfl 1 rfl ?_
  refine g_iload_n (pc := 5) cx dX8_step_5 rfl 2 rfl ?_
  obtain ⟨q3, M1, hc2, hf⟩ := obn_some2 hf
  refine g_callVi (pc := 6) [.int x1, .int x2] [] cx lk_X8_195 vw_X7 (LWires_o (LTramWires_now h0)) (by decide) (c_X7_hasPlace (LTramWires_now h0) hc2) dX8_step_6 (Nat.le_of_ble_eq_true rfl) ?_
  refine g_if_ne (pc := 9) (tgt := 14) cx dX8_step_9 rfl hf (fun hf => ?_) (fun hf => ?_)
  · refine g_iconst (pc := 12) (v := (-1)) cx dX8_step_12 (by decide) ?_
    exact g_iret (pc := 13) cx en dX8_step_13 rfl hf
  · refine g_aload_n (pc := 14) cx dX8_step_14 rfl 0 rfl ?_
    refine fg_X8_10 (pc := 15) cx dX8_step_15 h0 ?_
    refine g_iload_n (pc := 18) cx dX8_step_18 rfl 1 rfl ?_
    refine g_iload_n (pc := 19) cx dX8_step_19 rfl 2 rfl ?_
    obtain ⟨q6, M4, hc5, hf⟩ := obn_some2 hf
    refine g_callVi (pc := 20) [.int x1, .int x2] [] cx lk_X8_198 vw_X7 (LWires_o (LTramWires_now h0)) (by decide) (c_X7_reasonAgainst (LTramWires_now h0) hc5) dX8_step_20 (Nat.le_of_ble_eq_true rfl) ?_
    refine g_if_eq (pc := 23) (tgt := 29) cx dX8_step_23 rfl hf (fun hf => ?_) (fun hf => ?_)
    · refine g_aload_n (pc := 29) cx dX8_step_29 rfl 0 rfl ?_
      refine fg_X8_19 (pc := 30) cx dX8_step_30 h0 ?_
      refine g_aload_n (pc := 33) cx dX8_step_33 rfl 0 rfl ?_
      refine fg_X8_10 (pc := 34) cx dX8_step_34 h0 ?_
      obtain ⟨q9, M7, hc8, hf⟩ := obn_some2 hf
      refine g_callVv (pc := 37) [.ref (a0 + 1)] [] cx lk_X8_58 vw_X0 (LHistory_o (LTramWires_history h0)) (by decide) (c_X0_keep (LTramWires_history h0) (LTramWires_now h0) hc8) dX8_step_37 (Nat.le_of_ble_eq_true rfl) ?_
      refine g_aload_n (pc := 40) cx dX8_step_40 rfl 0 rfl ?_
      refine fg_X8_10 (pc := 41) cx dX8_step_41 h0 ?_
      refine g_iload_n (pc := 44) cx dX8_step_44 rfl 1 rfl ?_
      refine g_iload_n (pc := 45) cx dX8_step_45 rfl 2 rfl ?_
      obtain ⟨q12, M10, hc11, hf⟩ := obn_some2 hf
      refine g_callVv (pc := 46) [.int x1, .int x2] [] cx lk_X8_201 vw_X7 (LWires_o (LTramWires_now h0)) (by decide) (c_X7_make (LTramWires_now h0) hc11) dX8_step_46 (Nat.le_of_ble_eq_true rfl) ?_
      refine g_aload_n (pc := 49) cx dX8_step_49 rfl 0 rfl ?_
      refine fg_X8_10 (pc := 50) cx dX8_step_50 h0 ?_
      refine fg_X8_48 (pc := 53) cx dX8_step_53 (LTramWires_now h0) ?_
      refine fg_X8_103 (pc := 56) cx dX8_step_56 (LWires_net (LTramWires_now h0)) ?_
      obtain ⟨q15, M13, hc14, hf⟩ := obn_some2 hf
      refine g_callSi (pc := 59) [.ref (((a0 + 1) + 1) + 6)] [] cx lk_X8_157 (by decide) (c_X8_countTrue (LNet_live (LWires_net (LTramWires_now h0))) hc14) dX8_step_59 (Nat.le_of_ble_eq_true rfl) ?_
      exact g_iret (pc := 62) cx en dX8_step_62 rfl hf
    · refine g_bipush (pc := 26) (v := (-2)) cx dX8_step_26 (by decide) ?_
      exact g_iret (pc := 28) cx en dX8_step_28 rfl hf
/-! X8_log -/
def b_X8_log_13 (a0 : Nat) (M : Mm) : OR := some ((-1), M)
def f_X8_log (a0 : Nat) (M : Mm) (x1 : Int32) (x2 : Int32) : OR := if x1 < 0 then b_X8_log_13 a0 M else obn (f_X8_isOutside M x2 0 2) fun q3 M1 => (if q3 = 0 then if x1 < (M1 ((a0 + 1) + 16) 1) then bnd (((M1 ((a0 + 1) + 16) 1) - 1) - x1) fun v4 => if x2 = 0 then ckd v4 24 (some ((M1 (((a0 + 1) + 16) + 1) (ix v4)), M1)) else if x2 = 1 then ckd v4 24 (some ((M1 (((a0 + 1) + 16) + 2) (ix v4)), M1)) else ckd v4 24 (some ((M1 (((a0 + 1) + 16) + 3) (ix v4)), M1)) else some ((-4), M1) else b_X8_log_13 a0 M1)
set_option maxHeartbeats 4000000 in
set_option maxRecDepth 100000 in
theorem w_X8_log_13 {l : Launch} {w : Wp} {L : Ly} {E : Cx} {a0 : Nat} {R0 : Int32 × Mm} (cx : Ok w L E RX8 cX8_log 5 1) (en : En w L E (some .int) R0) (h0 : LTramWires w L (a0)) {M : Mm} (hf : b_X8_log_13 a0 M = some R0) : G l w L E M [] 13 [] := by
  unfold b_X8_log_13 at hf
  refine g_iconst (pc := 13) (v := (-1)) cx dX8_log_13 (by decide) ?_
  exact g_iret (pc := 14) cx en dX8_log_14 rfl hf
set_option maxHeartbeats 4000000 in
set_option maxRecDepth 100000 in
theorem c_X8_log {l : Launch} {w : Wp} {L : Ly} {a0 : Nat} {M : Mm} {x1 : Int32} {x2 : Int32} {R0 : Int32 × Mm} (h0 : LTramWires w L (a0)) (hf : f_X8_log a0 M x1 x2 = some R0) : CT l w L yX8_log cX8_log 5 (some .int) 1 [.ref a0, .int x1, .int x2] M R0 := by
  unfold f_X8_log at hf
  refine CT_of pn_X8 (Nat.le_of_ble_eq_true rfl) (fun E cx en => ?_)
  have cx : Ok w L E RX8 cX8_log 5 1 := cx
  show G l w L E M [(0, .ref a0), (1, .int x1), (2, .int x2)] 0 []
  refine g_iload_n (pc := 0) cx dX8_log_0 rfl 1 rfl ?_
  refine g_if_lt (pc := 1) (tgt := 13) cx dX8_log_1 rfl hf (fun hf => ?_) (fun hf => ?_)
  · refine g_sub [] [] rfl ?_
    exact w_X8_log_13 cx en h0 hf
  · refine g_iload_n (pc := 4) cx dX8_log_4 rfl 2 rfl ?_
    refine g_iconst (pc := 5) (v := 0) cx dX8_log_5 (by decide) ?_
    refine g_iconst (pc := 6) (v := 2) cx dX8_log_6 (by decide) ?_
    obtain ⟨q3, M1, hc2, hf⟩ := obn_some2 hf
    refine g_callSi (pc := 7) [.int x2, .int 0, .int 2] [] cx lk_X8_44 (by decide) (c_X8_isOutside hc2) dX8_log_7 (Nat.le_of_ble_eq_true rfl) ?_
    refine g_if_eq (pc := 10) (tgt := 15) cx dX8_log_10 rfl hf (fun hf => ?_) (fun hf => ?_)
    · refine g_aload_n (pc := 15) cx dX8_log_15 rfl 0 rfl ?_
      refine fg_X8_10 (pc := 16) cx dX8_log_16 h0 ?_
      refine fg_X8_167 (pc := 19) cx dX8_log_19 (LTramWires_now h0) ?_
      refine g_astore_n (pc := 22) cx [(3, .ref ((a0 + 1) + 16)), (0, .ref a0), (1, .int x1), (2, .int x2)] dX8_log_22 rfl (by decide) rfl ?_
      refine g_iload_n (pc := 23) cx dX8_log_23 rfl 2 rfl ?_
      refine g_aload_n (pc := 24) cx dX8_log_24 rfl 0 rfl ?_
      refine fg_X8_176 (pc := 25) cx dX8_log_25 (LWires_log (LTramWires_now h0)) ?_
      refine g_icmp_lt (pc := 28) (tgt := 34) cx dX8_log_28 rfl hf (fun hf => ?_) (fun hf => ?_)
      · refine g_aload_n (pc := 34) cx dX8_log_34 rfl 0 rfl ?_
        refine fg_X8_176 (pc := 35) cx dX8_log_35 (LWires_log (LTramWires_now h0)) ?_
        refine g_iconst (pc := 38) (v := 1) cx dX8_log_38 (by decide) ?_
        refine g_isub (pc := 39) cx dX8_log_39 ?_
        refine g_iload_n (pc := 40) cx dX8_log_40 rfl 2 rfl ?_
        refine g_isub (pc := 41) cx dX8_log_41 ?_
        refine g_nm hf (fun v4 hf => ?_)
        refine g_istore (pc := 42) cx [(4, .int v4), (3, .ref ((a0 + 1) + 16)), (0, .ref a0), (1, .int x1), (2, .int x2)] dX8_log_42 (by decide) rfl ?_
        refine g_iload_n (pc := 44) cx dX8_log_44 rfl 4 rfl ?_
        refine g_lks (pc := 45) (kx := 0) (off := 27) (tgt := 72) cx dX8_log_45 (by decide) (by decide) (by decide) hf (fun hf => ?_) (fun n0 hf => ?_)
        · refine g_aload_n (pc := 72) cx dX8_log_72 rfl 1 rfl ?_
          refine fg_X8_205 (pc := 73) cx dX8_log_73 (LWires_log (LTramWires_now h0)) ?_
          refine g_iload (pc := 76) cx dX8_log_76 0 rfl ?_
          refine g_iald (pc := 78) cx (LLog_kinds (LWires_log (LTramWires_now h0))) dX8_log_78 hf (fun hf => ?_)
          exact g_iret (pc := 79) cx en dX8_log_79 rfl hf
        refine g_lks (pc := 45) (kx := 1) (off := 35) (tgt := 80) cx dX8_log_45 (by decide) (by decide) (by decide) hf (fun hf => ?_) (fun n1 hf => ?_)
        · refine g_aload_n (pc := 80) cx dX8_log_80 rfl 1 rfl ?_
          refine fg_X8_208 (pc := 81) cx dX8_log_81 (LWires_log (LTramWires_now h0)) ?_
          refine g_iload (pc := 84) cx dX8_log_84 0 rfl ?_
          refine g_iald (pc := 86) cx (LLog_places (LWires_log (LTramWires_now h0))) dX8_log_86 hf (fun hf => ?_)
          exact g_iret (pc := 87) cx en dX8_log_87 rfl hf
        refine g_lko (pc := 45) (off := 43) (tgt := 88) cx dX8_log_45 (by decide) ?_ (by decide) ?_
        · refine (lv_osw n0 (by decide)).trans ?_
          refine (lv_osw n1 (by decide)).trans ?_
          rfl
        · refine g_aload_n (pc := 88) cx dX8_log_88 rfl 1 rfl ?_
          refine fg_X8_211 (pc := 89) cx dX8_log_89 (LWires_log (LTramWires_now h0)) ?_
          refine g_iload (pc := 92) cx dX8_log_92 0 rfl ?_
          refine g_iald (pc := 94) cx (LLog_times (LWires_log (LTramWires_now h0))) dX8_log_94 hf (fun hf => ?_)
          exact g_iret (pc := 95) cx en dX8_log_95 rfl hf
      · refine g_bipush (pc := 31) (v := (-4)) cx dX8_log_31 (by decide) ?_
        exact g_iret (pc := 33) cx en dX8_log_33 rfl hf
    · refine g_sub [] [] rfl ?_
      exact w_X8_log_13 cx en h0 hf
/-! X8_plan -/
def b_X8_plan_15 (a0 : Nat) (M : Mm) : OR := some ((-1), M)
def f_X8_plan (a0 : Nat) (M : Mm) (x1 : Int32) (x2 : Int32) : OR := obn (f_X7_hasSection (a0 + 1) M x1) fun q3 M1 => (if q3 = 0 then b_X8_plan_15 a0 M1 else if x2 < 0 then b_X8_plan_15 a0 M1 else obn (f_X3_drawUp (a0 + 197) (a0 + 1) M1 x1) fun _ M4 => (if x2 < (M4 (a0 + 197) 0) then ckd x2 19 (ckd x2 19 (some (((100 * (M4 ((a0 + 197) + 1) (ix x2))) + (M4 ((a0 + 197) + 2) (ix x2))), M4))) else some ((-4), M4)))
set_option maxHeartbeats 4000000 in
set_option maxRecDepth 100000 in
theorem w_X8_plan_15 {l : Launch} {w : Wp} {L : Ly} {E : Cx} {a0 : Nat} {R0 : Int32 × Mm} (cx : Ok w L E RX8 cX8_plan 3 2) (en : En w L E (some .int) R0) (h0 : LTramWires w L (a0)) {M : Mm} (hf : b_X8_plan_15 a0 M = some R0) : G l w L E M [] 15 [] := by
  unfold b_X8_plan_15 at hf
  refine g_iconst (pc := 15) (v := (-1)) cx dX8_plan_15 (by decide) ?_
  exact g_iret (pc := 16) cx en dX8_plan_16 rfl hf
set_option maxHeartbeats 4000000 in
set_option maxRecDepth 100000 in
theorem c_X8_plan {l : Launch} {w : Wp} {L : Ly} {a0 : Nat} {M : Mm} {x1 : Int32} {x2 : Int32} {R0 : Int32 × Mm} (h0 : LTramWires w L (a0)) (hf : f_X8_plan a0 M x1 x2 = some R0) : CT l w L yX8_plan cX8_plan 3 (some .int) 2 [.ref a0, .int x1, .int x2] M R0 := by
  unfold f_X8_plan at hf
  refine CT_of pn_X8 (Nat.le_of_ble_eq_true rfl) (fun E cx en => ?_)
  have cx : Ok w L E RX8 cX8_plan 3 2 := cx
  show G l w L E M [(0, .ref a0), (1, .int x1), (2, .int x2)] 0 []
  refine g_aload_n (pc := 0) cx dX8_plan_0 rfl 0 rfl ?_
  refine fg_X8_10 (pc := 1) cx dX8_plan_1 h0 ?_
  refine g_iload_n (pc := 4) cx dX8_plan_4 rfl 1 rfl ?_
  obtain ⟨q3, M1, hc2, hf⟩ := obn_some2 hf
  refine g_callVi (pc := 5) [.int x1] [] cx lk_X8_66 vw_X7 (LWires_o (LTramWires_now h0)) (by decide) (c_X7_hasSection (LTramWires_now h0) hc2) dX8_plan_5 (Nat.le_of_ble_eq_true rfl) ?_
  refine g_if_eq (pc := 8) (tgt := 15) cx dX8_plan_8 rfl hf (fun hf => ?_) (fun hf => ?_)
  · refine g_sub [] [] rfl ?_
    exact w_X8_plan_15 cx en h0 hf
  · refine g_iload_n (pc := 11) cx dX8_plan_11 rfl 2 rfl ?_
    refine g_if_ge (pc := 12) (tgt := 17) cx dX8_plan_12 rfl hf (fun hf => ?_) (fun hf => ?_)
    · refine g_sub [] [] rfl ?_
      exact w_X8_plan_15 cx en h0 hf
    · refine g_aload_n (pc := 17) cx dX8_plan_17 rfl 0 rfl ?_
      refine fg_X8_33 (pc := 18) cx dX8_plan_18 h0 ?_
      refine g_aload_n (pc := 21) cx dX8_plan_21 rfl 0 rfl ?_
      refine fg_X8_10 (pc := 22) cx dX8_plan_22 h0 ?_
      refine g_iload_n (pc := 25) cx dX8_plan_25 rfl 1 rfl ?_
      obtain ⟨q6, M4, hc5, hf⟩ := obn_some2 hf
      refine g_callVv (pc := 26) [.ref (a0 + 1), .int x1] [] cx lk_X8_214 vw_X3 (LPlan_o (LTramWires_outPlan h0)) (by decide) (c_X3_drawUp (LTramWires_outPlan h0) (LTramWires_now h0) hc5) dX8_plan_26 (Nat.le_of_ble_eq_true rfl) ?_
      refine g_iload_n (pc := 29) cx dX8_plan_29 rfl 2 rfl ?_
      refine g_aload_n (pc := 30) cx dX8_plan_30 rfl 0 rfl ?_
      refine fg_X8_33 (pc := 31) cx dX8_plan_31 h0 ?_
      refine fg_X8_218 (pc := 34) cx dX8_plan_34 (LTramWires_outPlan h0) ?_
      refine g_icmp_lt (pc := 37) (tgt := 43) cx dX8_plan_37 rfl hf (fun hf => ?_) (fun hf => ?_)
      · refine g_bipush (pc := 43) (v := 100) cx dX8_plan_43 (by decide) ?_
        refine g_aload_n (pc := 45) cx dX8_plan_45 rfl 0 rfl ?_
        refine fg_X8_33 (pc := 46) cx dX8_plan_46 h0 ?_
        refine fg_X8_219 (pc := 49) cx dX8_plan_49 (LTramWires_outPlan h0) ?_
        refine g_iload_n (pc := 52) cx dX8_plan_52 rfl 2 rfl ?_
        refine g_iald (pc := 53) cx (LPlan_kinds (LTramWires_outPlan h0)) dX8_plan_53 hf (fun hf => ?_)
        refine g_imul (pc := 54) cx dX8_plan_54 ?_
        refine g_aload_n (pc := 55) cx dX8_plan_55 rfl 0 rfl ?_
        refine fg_X8_33 (pc := 56) cx dX8_plan_56 h0 ?_
        refine fg_X8_220 (pc := 59) cx dX8_plan_59 (LTramWires_outPlan h0) ?_
        refine g_iload_n (pc := 62) cx dX8_plan_62 rfl 2 rfl ?_
        refine g_iald (pc := 63) cx (LPlan_places (LTramWires_outPlan h0)) dX8_plan_63 hf (fun hf => ?_)
        refine g_iadd (pc := 64) cx dX8_plan_64 ?_
        exact g_iret (pc := 65) cx en dX8_plan_65 rfl hf
      · refine g_bipush (pc := 40) (v := (-4)) cx dX8_plan_40 (by decide) ?_
        exact g_iret (pc := 42) cx en dX8_plan_42 rfl hf
/-! X8_canPlan -/
def f_X8_canPlan (a0 : Nat) (M : Mm) (x1 : Int32) : OR := obn (f_X7_hasSection (a0 + 1) M x1) fun q3 M1 => (if q3 = 0 then some ((-1), M1) else obn (f_X3_drawUp (a0 + 197) (a0 + 1) M1 x1) fun _ M4 => (obn (f_X4_tryPlan (a0 + 200) (a0 + 1) (a0 + 197) M4) fun _ M7 => (some ((M7 (a0 + 200) 1), M7))))
set_option maxHeartbeats 4000000 in
set_option maxRecDepth 100000 in
theorem c_X8_canPlan {l : Launch} {w : Wp} {L : Ly} {a0 : Nat} {M : Mm} {x1 : Int32} {R0 : Int32 × Mm} (h0 : LTramWires w L (a0)) (hf : f_X8_canPlan a0 M x1 = some R0) : CT l w L yX8_canPlan cX8_canPlan 2 (some .int) 6 [.ref a0, .int x1] M R0 := by
  unfold f_X8_canPlan at hf
  refine CT_of pn_X8 (Nat.le_of_ble_eq_true rfl) (fun E cx en => ?_)
  have cx : Ok w L E RX8 cX8_canPlan 2 6 := cx
  show G l w L E M [(0, .ref a0), (1, .int x1)] 0 []
  refine g_aload_n (pc := 0) cx dX8_canPlan_0 rfl 0 rfl ?_
  refine fg_X8_10 (pc := 1) cx dX8_canPlan_1 h0 ?_
  refine g_iload_n (pc := 4) cx dX8_canPlan_4 rfl 1 rfl ?_
  obtain ⟨q3, M1, hc2, hf⟩ := obn_some2 hf
  refine g_callVi (pc := 5) [.int x1] [] cx lk_X8_66 vw_X7 (LWires_o (LTramWires_now h0)) (by decide) (c_X7_hasSection (LTramWires_now h0) hc2) dX8_canPlan_5 (Nat.le_of_ble_eq_true rfl) ?_
  refine g_if_ne (pc := 8) (tgt := 13) cx dX8_canPlan_8 rfl hf (fun hf => ?_) (fun hf => ?_)
  · refine g_iconst (pc := 11) (v := (-1)) cx dX8_canPlan_11 (by decide) ?_
    exact g_iret (pc := 12) cx en dX8_canPlan_12 rfl hf
  · refine g_aload_n (pc := 13) cx dX8_canPlan_13 rfl 0 rfl ?_
    refine fg_X8_33 (pc := 14) cx dX8_canPlan_14 h0 ?_
    refine g_aload_n (pc := 17) cx dX8_canPlan_17 rfl 0 rfl ?_
    refine fg_X8_10 (pc := 18) cx dX8_canPlan_18 h0 ?_
    refine g_iload_n (pc := 21) cx dX8_canPlan_21 rfl 1 rfl ?_
    obtain ⟨q6, M4, hc5, hf⟩ := obn_some2 hf
    refine g_callVv (pc := 22) [.ref (a0 + 1), .int x1] [] cx lk_X8_214 vw_X3 (LPlan_o (LTramWires_outPlan h0)) (by decide) (c_X3_drawUp (LTramWires_outPlan h0) (LTramWires_now h0) hc5) dX8_canPlan_22 (Nat.le_of_ble_eq_true rfl) ?_
    refine g_aload_n (pc := 25) cx dX8_canPlan_25 rfl 0 rfl ?_
    refine fg_X8_40 (pc := 26) cx dX8_canPlan_26 h0 ?_
    refine g_aload_n (pc := 29) cx dX8_canPlan_29 rfl 0 rfl ?_
    refine fg_X8_10 (pc := 30) cx dX8_canPlan_30 h0 ?_
    refine g_aload_n (pc := 33) cx dX8_canPlan_33 rfl 0 rfl ?_
    refine fg_X8_33 (pc := 34) cx dX8_canPlan_34 h0 ?_
    obtain ⟨q9, M7, hc8, hf⟩ := obn_some2 hf
    refine g_callVv (pc := 37) [.ref (a0 + 1), .ref (a0 + 197)] [] cx lk_X8_221 vw_X4 (LRehearsal_o (LTramWires_rehearsal h0)) (by decide) (c_X4_tryPlan (LTramWires_rehearsal h0) (LTramWires_now h0) (LTramWires_outPlan h0) hc8) dX8_canPlan_37 (Nat.le_of_ble_eq_true rfl) ?_
    refine g_aload_n (pc := 40) cx dX8_canPlan_40 rfl 0 rfl ?_
    refine fg_X8_40 (pc := 41) cx dX8_canPlan_41 h0 ?_
    refine fg_X8_225 (pc := 44) cx dX8_canPlan_44 (LTramWires_rehearsal h0) ?_
    exact g_iret (pc := 47) cx en dX8_canPlan_47 rfl hf
/-! X8_enter -/
def b_X8_enter_40 (a0 : Nat) (M : Mm) : OR := some ((-1), M)
def b_X8_enter_72 (a0 : Nat) (M : Mm) : OR := some ((-2), M)
def f_X8_enter (a0 : Nat) (M : Mm) (x1 : Int32) (x2 : Int32) (x3 : Int32) : OR := obn (f_X7_hasSection (a0 + 1) M x1) fun q3 M1 => (if q3 = 0 then b_X8_enter_40 a0 M1 else obn (f_X8_isOutside M1 x2 0 50) fun q6 M4 => (if q6 = 0 then obn (f_X8_isOutside M4 x3 (M4 ((a0 + 1) + 8) 0) 100000) fun q9 M7 => (if q9 = 0 then ckd x1 10 (if (zb (M7 (((a0 + 1) + 8) + 3) (ix x1))) = 0 then b_X8_enter_72 a0 M7 else ckd x1 10 (if (zb (M7 (((a0 + 1) + 8) + 4) (ix x1))) = 0 then obn (f_X0_keep (a0 + 33) (a0 + 1) M7) fun _ M10 => (obn (f_X5_bringGang ((a0 + 1) + 8) M10 x1 x2 x3) fun _ M13 => (obn (f_X8_countTrue (((a0 + 1) + 8) + 4) M13) fun q18 M16 => (some (q18, M16)))) else b_X8_enter_72 a0 M7)) else b_X8_enter_40 a0 M7) else b_X8_enter_40 a0 M4))
set_option maxHeartbeats 4000000 in
set_option maxRecDepth 100000 in
theorem w_X8_enter_40 {l : Launch} {w : Wp} {L : Ly} {E : Cx} {a0 : Nat} {R0 : Int32 × Mm} (cx : Ok w L E RX8 cX8_enter 4 4) (en : En w L E (some .int) R0) (h0 : LTramWires w L (a0)) {M : Mm} (hf : b_X8_enter_40 a0 M = some R0) : G l w L E M [] 40 [] := by
  unfold b_X8_enter_40 at hf
  refine g_iconst (pc := 40) (v := (-1)) cx dX8_enter_40 (by decide) ?_
  exact g_iret (pc := 41) cx en dX8_enter_41 rfl hf
set_option maxHeartbeats 4000000 in
set_option maxRecDepth 100000 in
theorem w_X8_enter_72 {l : Launch} {w : Wp} {L : Ly} {E : Cx} {a0 : Nat} {R0 : Int32 × Mm} (cx : Ok w L E RX8 cX8_enter 4 4) (en : En w L E (some .int) R0) (h0 : LTramWires w L (a0)) {M : Mm} (hf : b_X8_enter_72 a0 M = some R0) : G l w L E M [] 72 [] := by
  unfold b_X8_enter_72 at hf
  refine g_bipush (pc := 72) (v := (-2)) cx dX8_enter_72 (by decide) ?_
  exact g_iret (pc := 74) cx en dX8_enter_74 rfl hf
set_option maxHeartbeats 4000000 in
set_option maxRecDepth 100000 in
theorem c_X8_enter {l : Launch} {w : Wp} {L : Ly} {a0 : Nat} {M : Mm} {x1 : Int32} {x2 : Int32} {x3 : Int32} {R0 : Int32 × Mm} (h0 : LTramWires w L (a0)) (hf : f_X8_enter a0 M x1 x2 x3 = some R0) : CT l w L yX8_enter cX8_enter 4 (some .int) 4 [.ref a0, .int x1, .int x2, .int x3] M R0 := by
  unfold f_X8_enter at hf
  refine CT_of pn_X8 (Nat.le_of_ble_eq_true rfl) (fun E cx en => ?_)
  have cx : Ok w L E RX8 cX8_enter 4 4 := cx
  show G l w L E M [(0, .ref a0), (1, .int x1), (2, .int x2), (3, .int x3)] 0 []
  refine g_aload_n (pc := 0) cx dX8_enter_0 rfl 0 rfl ?_
  refine fg_X8_10 (pc := 1) cx dX8_enter_1 h0 ?_
  refine g_iload_n (pc := 4) cx dX8_enter_4 rfl 1 rfl ?_
  obtain ⟨q3, M1, hc2, hf⟩ := obn_some2 hf
  refine g_callVi (pc := 5) [.int x1] [] cx lk_X8_66 vw_X7 (LWires_o (LTramWires_now h0)) (by decide) (c_X7_hasSection (LTramWires_now h0) hc2) dX8_enter_5 (Nat.le_of_ble_eq_true rfl) ?_
  refine g_if_eq (pc := 8) (tgt := 40) cx dX8_enter_8 rfl hf (fun hf => ?_) (fun hf => ?_)
  · refine g_sub [] [] rfl ?_
    exact w_X8_enter_40 cx en h0 hf
  · refine g_iload_n (pc := 11) cx dX8_enter_11 rfl 2 rfl ?_
    refine g_iconst (pc := 12) (v := 0) cx dX8_enter_12 (by decide) ?_
    refine g_bipush (pc := 13) (v := 50) cx dX8_enter_13 (by decide) ?_
    obtain ⟨q6, M4, hc5, hf⟩ := obn_some2 hf
    refine g_callSi (pc := 15) [.int x2, .int 0, .int 50] [] cx lk_X8_44 (by decide) (c_X8_isOutside hc5) dX8_enter_15 (Nat.le_of_ble_eq_true rfl) ?_
    refine g_if_ne (pc := 18) (tgt := 40) cx dX8_enter_18 rfl hf (fun hf => ?_) (fun hf => ?_)
    · refine g_iload_n (pc := 21) cx dX8_enter_21 rfl 3 rfl ?_
      refine g_aload_n (pc := 22) cx dX8_enter_22 rfl 0 rfl ?_
      refine fg_X8_10 (pc := 23) cx dX8_enter_23 h0 ?_
      refine fg_X8_80 (pc := 26) cx dX8_enter_26 (LTramWires_now h0) ?_
      refine fg_X8_164 (pc := 29) cx dX8_enter_29 (LWires_service (LTramWires_now h0)) ?_
      refine g_ldc (pc := 32) cx tk_X8_228 dX8_enter_32 ?_
      obtain ⟨q9, M7, hc8, hf⟩ := obn_some2 hf
      refine g_callSi (pc := 34) [.int x3, .int (M4 ((a0 + 1) + 8) 0), .int 100000] [] cx lk_X8_44 (by decide) (c_X8_isOutside hc8) dX8_enter_34 (Nat.le_of_ble_eq_true rfl) ?_
      refine g_if_eq (pc := 37) (tgt := 42) cx dX8_enter_37 rfl hf (fun hf => ?_) (fun hf => ?_)
      · refine g_aload_n (pc := 42) cx dX8_enter_42 rfl 0 rfl ?_
        refine fg_X8_10 (pc := 43) cx dX8_enter_43 h0 ?_
        refine fg_X8_80 (pc := 46) cx dX8_enter_46 (LTramWires_now h0) ?_
        refine fg_X8_117 (pc := 49) cx dX8_enter_49 (LWires_service (LTramWires_now h0)) ?_
        refine g_iload_n (pc := 52) cx dX8_enter_52 rfl 1 rfl ?_
        refine g_zald (pc := 53) cx (LService_earthed (LWires_service (LTramWires_now h0))) dX8_enter_53 hf (fun hf => ?_)
        refine g_if_eq (pc := 54) (tgt := 72) cx dX8_enter_54 rfl hf (fun hf => ?_) (fun hf => ?_)
        · refine g_sub [] [] rfl ?_
          exact w_X8_enter_72 cx en h0 hf
        · refine g_aload_n (pc := 57) cx dX8_enter_57 rfl 0 rfl ?_
          refine fg_X8_10 (pc := 58) cx dX8_enter_58 h0 ?_
          refine fg_X8_80 (pc := 61) cx dX8_enter_61 (LTramWires_now h0) ?_
          refine fg_X8_120 (pc := 64) cx dX8_enter_64 (LWires_service (LTramWires_now h0)) ?_
          refine g_iload_n (pc := 67) cx dX8_enter_67 rfl 1 rfl ?_
          refine g_zald (pc := 68) cx (LService_gang (LWires_service (LTramWires_now h0))) dX8_enter_68 hf (fun hf => ?_)
          refine g_if_eq (pc := 69) (tgt := 75) cx dX8_enter_69 rfl hf (fun hf => ?_) (fun hf => ?_)
          · refine g_aload_n (pc := 75) cx dX8_enter_75 rfl 0 rfl ?_
            refine fg_X8_19 (pc := 76) cx dX8_enter_76 h0 ?_
            refine g_aload_n (pc := 79) cx dX8_enter_79 rfl 0 rfl ?_
            refine fg_X8_10 (pc := 80) cx dX8_enter_80 h0 ?_
            obtain ⟨q12, M10, hc11, hf⟩ := obn_some2 hf
            refine g_callVv (pc := 83) [.ref (a0 + 1)] [] cx lk_X8_58 vw_X0 (LHistory_o (LTramWires_history h0)) (by decide) (c_X0_keep (LTramWires_history h0) (LTramWires_now h0) hc11) dX8_enter_83 (Nat.le_of_ble_eq_true rfl) ?_
            refine g_aload_n (pc := 86) cx dX8_enter_86 rfl 0 rfl ?_
            refine fg_X8_10 (pc := 87) cx dX8_enter_87 h0 ?_
            refine fg_X8_80 (pc := 90) cx dX8_enter_90 (LTramWires_now h0) ?_
            refine g_iload_n (pc := 93) cx dX8_enter_93 rfl 1 rfl ?_
            refine g_iload_n (pc := 94) cx dX8_enter_94 rfl 2 rfl ?_
            refine g_iload_n (pc := 95) cx dX8_enter_95 rfl 3 rfl ?_
            obtain ⟨q15, M13, hc14, hf⟩ := obn_some2 hf
            refine g_callVv (pc := 96) [.int x1, .int x2, .int x3] [] cx lk_X8_229 vw_X5 (LService_o (LWires_service (LTramWires_now h0))) (by decide) (c_X5_bringGang (LWires_service (LTramWires_now h0)) hc14) dX8_enter_96 (Nat.le_of_ble_eq_true rfl) ?_
            refine g_aload_n (pc := 99) cx dX8_enter_99 rfl 0 rfl ?_
            refine fg_X8_10 (pc := 100) cx dX8_enter_100 h0 ?_
            refine fg_X8_80 (pc := 103) cx dX8_enter_103 (LTramWires_now h0) ?_
            refine fg_X8_120 (pc := 106) cx dX8_enter_106 (LWires_service (LTramWires_now h0)) ?_
            obtain ⟨q18, M16, hc17, hf⟩ := obn_some2 hf
            refine g_callSi (pc := 109) [.ref (((a0 + 1) + 8) + 4)] [] cx lk_X8_157 (by decide) (c_X8_countTrue (LService_gang (LWires_service (LTramWires_now h0))) hc17) dX8_enter_109 (Nat.le_of_ble_eq_true rfl) ?_
            exact g_iret (pc := 112) cx en dX8_enter_112 rfl hf
          · refine g_sub [] [] rfl ?_
            exact w_X8_enter_72 cx en h0 hf
      · refine g_sub [] [] rfl ?_
        exact w_X8_enter_40 cx en h0 hf
    · refine g_sub [] [] rfl ?_
      exact w_X8_enter_40 cx en h0 hf
/-! X8_leave -/
def b_X8_leave_21 (a0 : Nat) (M : Mm) : OR := some ((-1), M)
def b_X8_leave_54 (a0 : Nat) (M : Mm) : OR := some ((-2), M)
def f_X8_leave (a0 : Nat) (M : Mm) (x1 : Int32) (x2 : Int32) : OR := obn (f_X7_hasSection (a0 + 1) M x1) fun q3 M1 => (if q3 = 0 then b_X8_leave_21 a0 M1 else obn (f_X8_isOutside M1 x2 0 50) fun q6 M4 => (if q6 = 0 then ckd x1 10 (if (zb (M4 (((a0 + 1) + 8) + 4) (ix x1))) = 0 then b_X8_leave_54 a0 M4 else ckd x1 10 (if (M4 (((a0 + 1) + 8) + 5) (ix x1)) < x2 then b_X8_leave_54 a0 M4 else obn (f_X0_keep (a0 + 33) (a0 + 1) M4) fun _ M7 => (obn (f_X5_sendGangOff ((a0 + 1) + 8) M7 x1 x2) fun q12 M10 => (some (q12, M10))))) else b_X8_leave_21 a0 M4))
set_option maxHeartbeats 4000000 in
set_option maxRecDepth 100000 in
theorem w_X8_leave_21 {l : Launch} {w : Wp} {L : Ly} {E : Cx} {a0 : Nat} {R0 : Int32 × Mm} (cx : Ok w L E RX8 cX8_leave 3 4) (en : En w L E (some .int) R0) (h0 : LTramWires w L (a0)) {M : Mm} (hf : b_X8_leave_21 a0 M = some R0) : G l w L E M [] 21 [] := by
  unfold b_X8_leave_21 at hf
  refine g_iconst (pc := 21) (v := (-1)) cx dX8_leave_21 (by decide) ?_
  exact g_iret (pc := 22) cx en dX8_leave_22 rfl hf
set_option maxHeartbeats 4000000 in
set_option maxRecDepth 100000 in
theorem w_X8_leave_54 {l : Launch} {w : Wp} {L : Ly} {E : Cx} {a0 : Nat} {R0 : Int32 × Mm} (cx : Ok w L E RX8 cX8_leave 3 4) (en : En w L E (some .int) R0) (h0 : LTramWires w L (a0)) {M : Mm} (hf : b_X8_leave_54 a0 M = some R0) : G l w L E M [] 54 [] := by
  unfold b_X8_leave_54 at hf
  refine g_bipush (pc := 54) (v := (-2)) cx dX8_leave_54 (by decide) ?_
  exact g_iret (pc := 56) cx en dX8_leave_56 rfl hf
set_option maxHeartbeats 4000000 in
set_option maxRecDepth 100000 in
theorem c_X8_leave {l : Launch} {w : Wp} {L : Ly} {a0 : Nat} {M : Mm} {x1 : Int32} {x2 : Int32} {R0 : Int32 × Mm} (h0 : LTramWires w L (a0)) (hf : f_X8_leave a0 M x1 x2 = some R0) : CT l w L yX8_leave cX8_leave 3 (some .int) 4 [.ref a0, .int x1, .int x2] M R0 := by
  unfold f_X8_leave at hf
  refine CT_of pn_X8 (Nat.le_of_ble_eq_true rfl) (fun E cx en => ?_)
  have cx : Ok w L E RX8 cX8_leave 3 4 := cx
  show G l w L E M [(0, .ref a0), (1, .int x1), (2, .int x2)] 0 []
  refine g_aload_n (pc := 0) cx dX8_leave_0 rfl 0 rfl ?_
  refine fg_X8_10 (pc := 1) cx dX8_leave_1 h0 ?_
  refine g_iload_n (pc := 4) cx dX8_leave_4 rfl 1 rfl ?_
  obtain ⟨q3, M1, hc2, hf⟩ := obn_some2 hf
  refine g_callVi (pc := 5) [.int x1] [] cx lk_X8_66 vw_X7 (LWires_o (LTramWires_now h0)) (by decide) (c_X7_hasSection (LTramWires_now h0) hc2) dX8_leave_5 (Nat.le_of_ble_eq_true rfl) ?_
  refine g_if_eq (pc := 8) (tgt := 21) cx dX8_leave_8 rfl hf (fun hf => ?_) (fun hf => ?_)
  · refine g_sub [] [] rfl ?_
    exact w_X8_leave_21 cx en h0 hf
  · refine g_iload_n (pc := 11) cx dX8_leave_11 rfl 2 rfl ?_
    refine g_iconst (pc := 12) (v := 0) cx dX8_leave_12 (by decide) ?_
    refine g_bipush (pc := 13) (v := 50) cx dX8_leave_13 (by decide) ?_
    obtain ⟨q6, M4, hc5, hf⟩ := obn_some2 hf
    refine g_callSi (pc := 15) [.int x2, .int 0, .int 50] [] cx lk_X8_44 (by decide) (c_X8_isOutside hc5) dX8_leave_15 (Nat.le_of_ble_eq_true rfl) ?_
    refine g_if_eq (pc := 18) (tgt := 23) cx dX8_leave_18 rfl hf (fun hf => ?_) (fun hf => ?_)
    · refine g_aload_n (pc := 23) cx dX8_leave_23 rfl 0 rfl ?_
      refine fg_X8_10 (pc := 24) cx dX8_leave_24 h0 ?_
      refine fg_X8_80 (pc := 27) cx dX8_leave_27 (LTramWires_now h0) ?_
      refine fg_X8_120 (pc := 30) cx dX8_leave_30 (LWires_service (LTramWires_now h0)) ?_
      refine g_iload_n (pc := 33) cx dX8_leave_33 rfl 1 rfl ?_
      refine g_zald (pc := 34) cx (LService_gang (LWires_service (LTramWires_now h0))) dX8_leave_34 hf (fun hf => ?_)
      refine g_if_eq (pc := 35) (tgt := 54) cx dX8_leave_35 rfl hf (fun hf => ?_) (fun hf => ?_)
      · refine g_sub [] [] rfl ?_
        exact w_X8_leave_54 cx en h0 hf
      · refine g_aload_n (pc := 38) cx dX8_leave_38 rfl 0 rfl ?_
        refine fg_X8_10 (pc := 39) cx dX8_leave_39 h0 ?_
        refine fg_X8_80 (pc := 42) cx dX8_leave_42 (LTramWires_now h0) ?_
        refine fg_X8_233 (pc := 45) cx dX8_leave_45 (LWires_service (LTramWires_now h0)) ?_
        refine g_iload_n (pc := 48) cx dX8_leave_48 rfl 1 rfl ?_
        refine g_iald (pc := 49) cx (LService_brought (LWires_service (LTramWires_now h0))) dX8_leave_49 hf (fun hf => ?_)
        refine g_iload_n (pc := 50) cx dX8_leave_50 rfl 2 rfl ?_
        refine g_icmp_ge (pc := 51) (tgt := 57) cx dX8_leave_51 rfl hf (fun hf => ?_) (fun hf => ?_)
        · refine g_sub [] [] rfl ?_
          exact w_X8_leave_54 cx en h0 hf
        · refine g_aload_n (pc := 57) cx dX8_leave_57 rfl 0 rfl ?_
          refine fg_X8_19 (pc := 58) cx dX8_leave_58 h0 ?_
          refine g_aload_n (pc := 61) cx dX8_leave_61 rfl 0 rfl ?_
          refine fg_X8_10 (pc := 62) cx dX8_leave_62 h0 ?_
          obtain ⟨q9, M7, hc8, hf⟩ := obn_some2 hf
          refine g_callVv (pc := 65) [.ref (a0 + 1)] [] cx lk_X8_58 vw_X0 (LHistory_o (LTramWires_history h0)) (by decide) (c_X0_keep (LTramWires_history h0) (LTramWires_now h0) hc8) dX8_leave_65 (Nat.le_of_ble_eq_true rfl) ?_
          refine g_aload_n (pc := 68) cx dX8_leave_68 rfl 0 rfl ?_
          refine fg_X8_10 (pc := 69) cx dX8_leave_69 h0 ?_
          refine fg_X8_80 (pc := 72) cx dX8_leave_72 (LTramWires_now h0) ?_
          refine g_iload_n (pc := 75) cx dX8_leave_75 rfl 1 rfl ?_
          refine g_iload_n (pc := 76) cx dX8_leave_76 rfl 2 rfl ?_
          obtain ⟨q12, M10, hc11, hf⟩ := obn_some2 hf
          refine g_callVi (pc := 77) [.int x1, .int x2] [] cx lk_X8_236 vw_X5 (LService_o (LWires_service (LTramWires_now h0))) (by decide) (c_X5_sendGangOff (LWires_service (LTramWires_now h0)) hc11) dX8_leave_77 (Nat.le_of_ble_eq_true rfl) ?_
          exact g_iret (pc := 80) cx en dX8_leave_80 rfl hf
    · refine g_sub [] [] rfl ?_
      exact w_X8_leave_21 cx en h0 hf
/-! X8_fetch -/
def b_X8_fetch_60 (a0 : Nat) (M : Mm) : OR := some ((-2), M)
def f_X8_fetch (a0 : Nat) (M : Mm) (x1 : Int32) : OR := obn (f_X7_hasSection (a0 + 1) M x1) fun q3 M1 => (if q3 = 0 then some ((-1), M1) else ckd x1 10 (bnd (M1 (((a0 + 1) + 8) + 7) (ix x1)) fun v4 => if v4 = 0 then b_X8_fetch_60 a0 M1 else ckd x1 10 (if (zb (M1 (((a0 + 1) + 1) + 6) (ix x1))) = 0 then ckd x1 10 (if (zb (M1 (((a0 + 1) + 8) + 4) (ix x1))) = 0 then obn (f_X0_keep (a0 + 33) (a0 + 1) M1) fun _ M5 => (ckd x1 10 (bnd (mst M5 (((a0 + 1) + 8) + 7) (ix x1) 0) fun M8 => some (v4, M8))) else b_X8_fetch_60 a0 M1) else b_X8_fetch_60 a0 M1)))
set_option maxHeartbeats 4000000 in
set_option maxRecDepth 100000 in
theorem w_X8_fetch_60 {l : Launch} {w : Wp} {L : Ly} {E : Cx} {a0 : Nat} {R0 : Int32 × Mm} (cx : Ok w L E RX8 cX8_fetch 3 4) (en : En w L E (some .int) R0) (h0 : LTramWires w L (a0)) {M : Mm} (hf : b_X8_fetch_60 a0 M = some R0) : G l w L E M [] 60 [] := by
  unfold b_X8_fetch_60 at hf
  refine g_bipush (pc := 60) (v := (-2)) cx dX8_fetch_60 (by decide) ?_
  exact g_iret (pc := 62) cx en dX8_fetch_62 rfl hf
set_option maxHeartbeats 4000000 in
set_option maxRecDepth 100000 in
theorem c_X8_fetch {l : Launch} {w : Wp} {L : Ly} {a0 : Nat} {M : Mm} {x1 : Int32} {R0 : Int32 × Mm} (h0 : LTramWires w L (a0)) (hf : f_X8_fetch a0 M x1 = some R0) : CT l w L yX8_fetch cX8_fetch 3 (some .int) 4 [.ref a0, .int x1] M R0 := by
  unfold f_X8_fetch at hf
  refine CT_of pn_X8 (Nat.le_of_ble_eq_true rfl) (fun E cx en => ?_)
  have cx : Ok w L E RX8 cX8_fetch 3 4 := cx
  show G l w L E M [(0, .ref a0), (1, .int x1)] 0 []
  refine g_aload_n (pc := 0) cx dX8_fetch_0 rfl 0 rfl ?_
  refine fg_X8_10 (pc := 1) cx dX8_fetch_1 h0 ?_
  refine g_iload_n (pc := 4) cx dX8_fetch_4 rfl 1 rfl ?_
  obtain ⟨q3, M1, hc2, hf⟩ := obn_some2 hf
  refine g_callVi (pc := 5) [.int x1] [] cx lk_X8_66 vw_X7 (LWires_o (LTramWires_now h0)) (by decide) (c_X7_hasSection (LTramWires_now h0) hc2) dX8_fetch_5 (Nat.le_of_ble_eq_true rfl) ?_
  refine g_if_ne (pc := 8) (tgt := 13) cx dX8_fetch_8 rfl hf (fun hf => ?_) (fun hf => ?_)
  · refine g_iconst (pc := 11) (v := (-1)) cx dX8_fetch_11 (by decide) ?_
    exact g_iret (pc := 12) cx en dX8_fetch_12 rfl hf
  · refine g_aload_n (pc := 13) cx dX8_fetch_13 rfl 0 rfl ?_
    refine fg_X8_10 (pc := 14) cx dX8_fetch_14 h0 ?_
    refine fg_X8_80 (pc := 17) cx dX8_fetch_17 (LTramWires_now h0) ?_
    refine fg_X8_123 (pc := 20) cx dX8_fetch_20 (LWires_service (LTramWires_now h0)) ?_
    refine g_iload_n (pc := 23) cx dX8_fetch_23 rfl 1 rfl ?_
    refine g_iald (pc := 24) cx (LService_tools (LWires_service (LTramWires_now h0))) dX8_fetch_24 hf (fun hf => ?_)
    refine g_nm hf (fun v4 hf => ?_)
    refine g_istore_n (pc := 25) cx [(2, .int v4), (0, .ref a0), (1, .int x1)] dX8_fetch_25 rfl (by decide) rfl ?_
    refine g_iload_n (pc := 26) cx dX8_fetch_26 rfl 0 rfl ?_
    refine g_if_eq (pc := 27) (tgt := 60) cx dX8_fetch_27 rfl hf (fun hf => ?_) (fun hf => ?_)
    · refine g_sub [] [] rfl ?_
      exact w_X8_fetch_60 cx en h0 hf
    · refine g_aload_n (pc := 30) cx dX8_fetch_30 rfl 1 rfl ?_
      refine fg_X8_10 (pc := 31) cx dX8_fetch_31 h0 ?_
      refine fg_X8_48 (pc := 34) cx dX8_fetch_34 (LTramWires_now h0) ?_
      refine fg_X8_103 (pc := 37) cx dX8_fetch_37 (LWires_net (LTramWires_now h0)) ?_
      refine g_iload_n (pc := 40) cx dX8_fetch_40 rfl 2 rfl ?_
      refine g_zald (pc := 41) cx (LNet_live (LWires_net (LTramWires_now h0))) dX8_fetch_41 hf (fun hf => ?_)
      refine g_if_ne (pc := 42) (tgt := 60) cx dX8_fetch_42 rfl hf (fun hf => ?_) (fun hf => ?_)
      · refine g_aload_n (pc := 45) cx dX8_fetch_45 rfl 1 rfl ?_
        refine fg_X8_10 (pc := 46) cx dX8_fetch_46 h0 ?_
        refine fg_X8_80 (pc := 49) cx dX8_fetch_49 (LTramWires_now h0) ?_
        refine fg_X8_120 (pc := 52) cx dX8_fetch_52 (LWires_service (LTramWires_now h0)) ?_
        refine g_iload_n (pc := 55) cx dX8_fetch_55 rfl 2 rfl ?_
        refine g_zald (pc := 56) cx (LService_gang (LWires_service (LTramWires_now h0))) dX8_fetch_56 hf (fun hf => ?_)
        refine g_if_eq (pc := 57) (tgt := 63) cx dX8_fetch_57 rfl hf (fun hf => ?_) (fun hf => ?_)
        · refine g_aload_n (pc := 63) cx dX8_fetch_63 rfl 1 rfl ?_
          refine fg_X8_19 (pc := 64) cx dX8_fetch_64 h0 ?_
          refine g_aload_n (pc := 67) cx dX8_fetch_67 rfl 1 rfl ?_
          refine fg_X8_10 (pc := 68) cx dX8_fetch_68 h0 ?_
          obtain ⟨q7, M5, hc6, hf⟩ := obn_some2 hf
          refine g_callVv (pc := 71) [.ref (a0 + 1)] [] cx lk_X8_58 vw_X0 (LHistory_o (LTramWires_history h0)) (by decide) (c_X0_keep (LTramWires_history h0) (LTramWires_now h0) hc6) dX8_fetch_71 (Nat.le_of_ble_eq_true rfl) ?_
          refine g_aload_n (pc := 74) cx dX8_fetch_74 rfl 1 rfl ?_
          refine fg_X8_10 (pc := 75) cx dX8_fetch_75 h0 ?_
          refine fg_X8_80 (pc := 78) cx dX8_fetch_78 (LTramWires_now h0) ?_
          refine fg_X8_123 (pc := 81) cx dX8_fetch_81 (LWires_service (LTramWires_now h0)) ?_
          refine g_iload_n (pc := 84) cx dX8_fetch_84 rfl 2 rfl ?_
          refine g_iconst (pc := 85) (v := 0) cx dX8_fetch_85 (by decide) ?_
          refine g_iast (pc := 86) cx (LService_tools (LWires_service (LTramWires_now h0))) dX8_fetch_86 hf (fun M8 hf => ?_)
          refine g_iload_n (pc := 87) cx dX8_fetch_87 rfl 0 rfl ?_
          exact g_iret (pc := 88) cx en dX8_fetch_88 rfl hf
        · refine g_sub [] [] rfl ?_
          exact w_X8_fetch_60 cx en h0 hf
      · refine g_sub [] [] rfl ?_
        exact w_X8_fetch_60 cx en h0 hf
/-! X8_pass -/
def f_X8_pass (a0 : Nat) (M : Mm) (x1 : Int32) : OR := obn (f_X8_isOutside M x1 1 10000) fun q3 M1 => (if q3 = 0 then if 100000 < ((M1 ((a0 + 1) + 8) 0) + x1) then some ((-3), M1) else obn (f_X0_keep (a0 + 33) (a0 + 1) M1) fun _ M4 => (bnd (mst M4 ((a0 + 1) + 8) 0 ((M4 ((a0 + 1) + 8) 0) + x1)) fun M7 => some ((M7 ((a0 + 1) + 8) 0), M7)) else some ((-1), M1))
set_option maxHeartbeats 4000000 in
set_option maxRecDepth 100000 in
theorem c_X8_pass {l : Launch} {w : Wp} {L : Ly} {a0 : Nat} {M : Mm} {x1 : Int32} {R0 : Int32 × Mm} (h0 : LTramWires w L (a0)) (hf : f_X8_pass a0 M x1 = some R0) : CT l w L yX8_pass cX8_pass 2 (some .int) 4 [.ref a0, .int x1] M R0 := by
  unfold f_X8_pass at hf
  refine CT_of pn_X8 (Nat.le_of_ble_eq_true rfl) (fun E cx en => ?_)
  have cx : Ok w L E RX8 cX8_pass 2 4 := cx
  show G l w L E M [(0, .ref a0), (1, .int x1)] 0 []
  refine g_iload_n (pc := 0) cx dX8_pass_0 rfl 1 rfl ?_
  refine g_iconst (pc := 1) (v := 1) cx dX8_pass_1 (by decide) ?_
  refine g_sipush (pc := 2) (v := 10000) cx dX8_pass_2 (by decide) ?_
  obtain ⟨q3, M1, hc2, hf⟩ := obn_some2 hf
  refine g_callSi (pc := 5) [.int x1, .int 1, .int 10000] [] cx lk_X8_44 (by decide) (c_X8_isOutside hc2) dX8_pass_5 (Nat.le_of_ble_eq_true rfl) ?_
  refine g_if_eq (pc := 8) (tgt := 13) cx dX8_pass_8 rfl hf (fun hf => ?_) (fun hf => ?_)
  · refine g_aload_n (pc := 13) cx dX8_pass_13 rfl 0 rfl ?_
    refine fg_X8_10 (pc := 14) cx dX8_pass_14 h0 ?_
    refine fg_X8_80 (pc := 17) cx dX8_pass_17 (LTramWires_now h0) ?_
    refine fg_X8_164 (pc := 20) cx dX8_pass_20 (LWires_service (LTramWires_now h0)) ?_
    refine g_iload_n (pc := 23) cx dX8_pass_23 rfl 1 rfl ?_
    refine g_iadd (pc := 24) cx dX8_pass_24 ?_
    refine g_ldc (pc := 25) cx tk_X8_228 dX8_pass_25 ?_
    refine g_icmp_le (pc := 27) (tgt := 33) cx dX8_pass_27 rfl hf (fun hf => ?_) (fun hf => ?_)
    · refine g_bipush (pc := 30) (v := (-3)) cx dX8_pass_30 (by decide) ?_
      exact g_iret (pc := 32) cx en dX8_pass_32 rfl hf
    · refine g_aload_n (pc := 33) cx dX8_pass_33 rfl 0 rfl ?_
      refine fg_X8_19 (pc := 34) cx dX8_pass_34 h0 ?_
      refine g_aload_n (pc := 37) cx dX8_pass_37 rfl 0 rfl ?_
      refine fg_X8_10 (pc := 38) cx dX8_pass_38 h0 ?_
      obtain ⟨q6, M4, hc5, hf⟩ := obn_some2 hf
      refine g_callVv (pc := 41) [.ref (a0 + 1)] [] cx lk_X8_58 vw_X0 (LHistory_o (LTramWires_history h0)) (by decide) (c_X0_keep (LTramWires_history h0) (LTramWires_now h0) hc5) dX8_pass_41 (Nat.le_of_ble_eq_true rfl) ?_
      refine g_aload_n (pc := 44) cx dX8_pass_44 rfl 0 rfl ?_
      refine fg_X8_10 (pc := 45) cx dX8_pass_45 h0 ?_
      refine fg_X8_80 (pc := 48) cx dX8_pass_48 (LTramWires_now h0) ?_
      refine g_dup (pc := 51) cx dX8_pass_51 rfl ?_
      refine fg_X8_164 (pc := 52) cx dX8_pass_52 (LWires_service (LTramWires_now h0)) ?_
      refine g_iload_n (pc := 55) cx dX8_pass_55 rfl 1 rfl ?_
      refine g_iadd (pc := 56) cx dX8_pass_56 ?_
      refine fp_X8_164 (pc := 57) cx dX8_pass_57 (LWires_service (LTramWires_now h0)) hf (fun M7 hf => ?_)
      refine g_aload_n (pc := 60) cx dX8_pass_60 rfl 0 rfl ?_
      refine fg_X8_10 (pc := 61) cx dX8_pass_61 h0 ?_
      refine fg_X8_80 (pc := 64) cx dX8_pass_64 (LTramWires_now h0) ?_
      refine fg_X8_164 (pc := 67) cx dX8_pass_67 (LWires_service (LTramWires_now h0)) ?_
      exact g_iret (pc := 70) cx en dX8_pass_70 rfl hf
  · refine g_iconst (pc := 11) (v := (-1)) cx dX8_pass_11 (by decide) ?_
    exact g_iret (pc := 12) cx en dX8_pass_12 rfl hf
/-! X8_type -/
def f_X8_type (a0 : Nat) (M : Mm) (x1 : Int32) : OR := obn (f_X8_isOutside M x1 32 126) fun q3 M1 => (if q3 = 0 then if (M1 (a0 + 195) 0) < 60 then ckd (M1 (a0 + 195) 0) 60 (bnd (mst M1 ((a0 + 195) + 1) (ix (M1 (a0 + 195) 0)) x1) fun M4 => bnd (mst M4 (a0 + 195) 0 ((M4 (a0 + 195) 0) + 1)) fun M5 => some ((M5 (a0 + 195) 0), M5)) else some ((-3), M1) else some ((-1), M1))
set_option maxHeartbeats 4000000 in
set_option maxRecDepth 100000 in
theorem c_X8_type {l : Launch} {w : Wp} {L : Ly} {a0 : Nat} {M : Mm} {x1 : Int32} {R0 : Int32 × Mm} (h0 : LTramWires w L (a0)) (hf : f_X8_type a0 M x1 = some R0) : CT l w L yX8_type cX8_type 2 (some .int) 1 [.ref a0, .int x1] M R0 := by
  unfold f_X8_type at hf
  refine CT_of pn_X8 (Nat.le_of_ble_eq_true rfl) (fun E cx en => ?_)
  have cx : Ok w L E RX8 cX8_type 2 1 := cx
  show G l w L E M [(0, .ref a0), (1, .int x1)] 0 []
  refine g_iload_n (pc := 0) cx dX8_type_0 rfl 1 rfl ?_
  refine g_bipush (pc := 1) (v := 32) cx dX8_type_1 (by decide) ?_
  refine g_bipush (pc := 3) (v := 126) cx dX8_type_3 (by decide) ?_
  obtain ⟨q3, M1, hc2, hf⟩ := obn_some2 hf
  refine g_callSi (pc := 5) [.int x1, .int 32, .int 126] [] cx lk_X8_44 (by decide) (c_X8_isOutside hc2) dX8_type_5 (Nat.le_of_ble_eq_true rfl) ?_
  refine g_if_eq (pc := 8) (tgt := 13) cx dX8_type_8 rfl hf (fun hf => ?_) (fun hf => ?_)
  · refine g_aload_n (pc := 13) cx dX8_type_13 rfl 0 rfl ?_
    refine fg_X8_26 (pc := 14) cx dX8_type_14 h0 ?_
    refine fg_X8_191 (pc := 17) cx dX8_type_17 (LTramWires_text h0) ?_
    refine g_bipush (pc := 20) (v := 60) cx dX8_type_20 (by decide) ?_
    refine g_icmp_lt (pc := 22) (tgt := 28) cx dX8_type_22 rfl hf (fun hf => ?_) (fun hf => ?_)
    · refine g_aload_n (pc := 28) cx dX8_type_28 rfl 0 rfl ?_
      refine fg_X8_26 (pc := 29) cx dX8_type_29 h0 ?_
      refine fg_X8_239 (pc := 32) cx dX8_type_32 (LTramWires_text h0) ?_
      refine g_aload_n (pc := 35) cx dX8_type_35 rfl 0 rfl ?_
      refine fg_X8_26 (pc := 36) cx dX8_type_36 h0 ?_
      refine fg_X8_191 (pc := 39) cx dX8_type_39 (LTramWires_text h0) ?_
      refine g_iload_n (pc := 42) cx dX8_type_42 rfl 1 rfl ?_
      refine g_iast (pc := 43) cx (LText_characters (LTramWires_text h0)) dX8_type_43 hf (fun M4 hf => ?_)
      refine g_aload_n (pc := 44) cx dX8_type_44 rfl 0 rfl ?_
      refine fg_X8_26 (pc := 45) cx dX8_type_45 h0 ?_
      refine g_dup (pc := 48) cx dX8_type_48 rfl ?_
      refine fg_X8_191 (pc := 49) cx dX8_type_49 (LTramWires_text h0) ?_
      refine g_iconst (pc := 52) (v := 1) cx dX8_type_52 (by decide) ?_
      refine g_iadd (pc := 53) cx dX8_type_53 ?_
      refine fp_X8_191 (pc := 54) cx dX8_type_54 (LTramWires_text h0) hf (fun M5 hf => ?_)
      refine g_aload_n (pc := 57) cx dX8_type_57 rfl 0 rfl ?_
      refine fg_X8_26 (pc := 58) cx dX8_type_58 h0 ?_
      refine fg_X8_191 (pc := 61) cx dX8_type_61 (LTramWires_text h0) ?_
      exact g_iret (pc := 64) cx en dX8_type_64 rfl hf
    · refine g_bipush (pc := 25) (v := (-3)) cx dX8_type_25 (by decide) ?_
      exact g_iret (pc := 27) cx en dX8_type_27 rfl hf
  · refine g_iconst (pc := 11) (v := (-1)) cx dX8_type_11 (by decide) ?_
    exact g_iret (pc := 12) cx en dX8_type_12 rfl hf
/-! X8_clearText -/
def f_X8_clearText (a0 : Nat) (M : Mm) : OR := bnd (M (a0 + 195) 0) fun v1 => bnd (mst M (a0 + 195) 0 0) fun M2 => some (v1, M2)
set_option maxHeartbeats 4000000 in
set_option maxRecDepth 100000 in
theorem c_X8_clearText {l : Launch} {w : Wp} {L : Ly} {a0 : Nat} {M : Mm} {R0 : Int32 × Mm} (h0 : LTramWires w L (a0)) (hf : f_X8_clearText a0 M = some R0) : CT l w L yX8_clearText cX8_clearText 2 (some .int) 0 [.ref a0] M R0 := by
  unfold f_X8_clearText at hf
  refine CT_of pn_X8 (Nat.le_of_ble_eq_true rfl) (fun E cx en => ?_)
  have cx : Ok w L E RX8 cX8_clearText 2 0 := cx
  show G l w L E M [(0, .ref a0)] 0 []
  refine g_aload_n (pc := 0) cx dX8_clearText_0 rfl 0 rfl ?_
  refine fg_X8_26 (pc := 1) cx dX8_clearText_1 h0 ?_
  refine fg_X8_191 (pc := 4) cx dX8_clearText_4 (LTramWires_text h0) ?_
  refine g_nm hf (fun v1 hf => ?_)
  refine g_istore_n (pc := 7) cx [(1, .int v1), (0, .ref a0)] dX8_clearText_7 rfl (by decide) rfl ?_
  refine g_aload_n (pc := 8) cx dX8_clearText_8 rfl 1 rfl ?_
  refine fg_X8_26 (pc := 9) cx dX8_clearText_9 h0 ?_
  refine g_iconst (pc := 12) (v := 0) cx dX8_clearText_12 (by decide) ?_
  refine fp_X8_191 (pc := 13) cx dX8_clearText_13 (LTramWires_text h0) hf (fun M2 hf => ?_)
  refine g_iload_n (pc := 16) cx dX8_clearText_16 rfl 0 rfl ?_
  exact g_iret (pc := 17) cx en dX8_clearText_17 rfl hf
/-! X8_fault -/
def b_X8_fault_60 (a0 : Nat) (M : Mm) (s0 : Int32) : OR := some (s0, M)
def f_X8_fault (a0 : Nat) (M : Mm) (x1 : Int32) : OR := obn (f_X8_isOutside M x1 0 1) fun q3 M1 => (if q3 = 0 then obn (f_X4_tryText (a0 + 200) (a0 + 1) (a0 + 195) M1) fun _ M4 => (if (M4 (a0 + 200) 3) = 0 then some ((-4), M4) else if x1 = 0 then b_X8_fault_60 a0 M4 (M4 (a0 + 200) 2) else b_X8_fault_60 a0 M4 (M4 (a0 + 200) 3)) else some ((-1), M1))
set_option maxHeartbeats 4000000 in
set_option maxRecDepth 100000 in
theorem w_X8_fault_60 {l : Launch} {w : Wp} {L : Ly} {E : Cx} {a0 : Nat} {s0 : Int32} {R0 : Int32 × Mm} (cx : Ok w L E RX8 cX8_fault 2 6) (en : En w L E (some .int) R0) (h0 : LTramWires w L (a0)) {M : Mm} (hf : b_X8_fault_60 a0 M s0 = some R0) : G l w L E M [] 60 [.int s0] := by
  unfold b_X8_fault_60 at hf
  exact g_iret (pc := 60) cx en dX8_fault_60 rfl hf
set_option maxHeartbeats 4000000 in
set_option maxRecDepth 100000 in
theorem c_X8_fault {l : Launch} {w : Wp} {L : Ly} {a0 : Nat} {M : Mm} {x1 : Int32} {R0 : Int32 × Mm} (h0 : LTramWires w L (a0)) (hf : f_X8_fault a0 M x1 = some R0) : CT l w L yX8_fault cX8_fault 2 (some .int) 6 [.ref a0, .int x1] M R0 := by
  unfold f_X8_fault at hf
  refine CT_of pn_X8 (Nat.le_of_ble_eq_true rfl) (fun E cx en => ?_)
  have cx : Ok w L E RX8 cX8_fault 2 6 := cx
  show G l w L E M [(0, .ref a0), (1, .int x1)] 0 []
  refine g_iload_n (pc := 0) cx dX8_fault_0 rfl 1 rfl ?_
  refine g_iconst (pc := 1) (v := 0) cx dX8_fault_1 (by decide) ?_
  refine g_iconst (pc := 2) (v := 1) cx dX8_fault_2 (by decide) ?_
  obtain ⟨q3, M1, hc2, hf⟩ := obn_some2 hf
  refine g_callSi (pc := 3) [.int x1, .int 0, .int 1] [] cx lk_X8_44 (by decide) (c_X8_isOutside hc2) dX8_fault_3 (Nat.le_of_ble_eq_true rfl) ?_
  refine g_if_eq (pc := 6) (tgt := 11) cx dX8_fault_6 rfl hf (fun hf => ?_) (fun hf => ?_)
  · refine g_aload_n (pc := 11) cx dX8_fault_11 rfl 0 rfl ?_
    refine fg_X8_40 (pc := 12) cx dX8_fault_12 h0 ?_
    refine g_aload_n (pc := 15) cx dX8_fault_15 rfl 0 rfl ?_
    refine fg_X8_10 (pc := 16) cx dX8_fault_16 h0 ?_
    refine g_aload_n (pc := 19) cx dX8_fault_19 rfl 0 rfl ?_
    refine fg_X8_26 (pc := 20) cx dX8_fault_20 h0 ?_
    obtain ⟨q6, M4, hc5, hf⟩ := obn_some2 hf
    refine g_callVv (pc := 23) [.ref (a0 + 1), .ref (a0 + 195)] [] cx lk_X8_242 vw_X4 (LRehearsal_o (LTramWires_rehearsal h0)) (by decide) (c_X4_tryText (LTramWires_rehearsal h0) (LTramWires_now h0) (LTramWires_text h0) hc5) dX8_fault_23 (Nat.le_of_ble_eq_true rfl) ?_
    refine g_aload_n (pc := 26) cx dX8_fault_26 rfl 0 rfl ?_
    refine fg_X8_40 (pc := 27) cx dX8_fault_27 h0 ?_
    refine fg_X8_246 (pc := 30) cx dX8_fault_30 (LTramWires_rehearsal h0) ?_
    refine g_if_ne (pc := 33) (tgt := 39) cx dX8_fault_33 rfl hf (fun hf => ?_) (fun hf => ?_)
    · refine g_bipush (pc := 36) (v := (-4)) cx dX8_fault_36 (by decide) ?_
      exact g_iret (pc := 38) cx en dX8_fault_38 rfl hf
    · refine g_iload_n (pc := 39) cx dX8_fault_39 rfl 1 rfl ?_
      refine g_if_ne (pc := 40) (tgt := 53) cx dX8_fault_40 rfl hf (fun hf => ?_) (fun hf => ?_)
      · refine g_aload_n (pc := 43) cx dX8_fault_43 rfl 0 rfl ?_
        refine fg_X8_40 (pc := 44) cx dX8_fault_44 h0 ?_
        refine fg_X8_249 (pc := 47) cx dX8_fault_47 (LTramWires_rehearsal h0) ?_
        refine g_goto (pc := 50) (tgt := 60) cx dX8_fault_50 rfl ?_
        refine g_sub [] [] rfl ?_
        exact w_X8_fault_60 cx en h0 hf
      · refine g_aload_n (pc := 53) cx dX8_fault_53 rfl 0 rfl ?_
        refine fg_X8_40 (pc := 54) cx dX8_fault_54 h0 ?_
        refine fg_X8_246 (pc := 57) cx dX8_fault_57 (LTramWires_rehearsal h0) ?_
        refine g_sub [] [] rfl ?_
        exact w_X8_fault_60 cx en h0 hf
  · refine g_iconst (pc := 9) (v := (-1)) cx dX8_fault_9 (by decide) ?_
    exact g_iret (pc := 10) cx en dX8_fault_10 rfl hf
/-! X8_play -/
def f_X8_play (a0 : Nat) (M : Mm) : OR := obn (f_X4_tryText (a0 + 200) (a0 + 1) (a0 + 195) M) fun _ M1 => (if (M1 (a0 + 200) 3) = 0 then obn (f_X0_keep (a0 + 33) (a0 + 1) M1) fun _ M4 => (obn (f_X7_copyFrom (a0 + 1) ((a0 + 200) + 1) M4) fun _ M7 => (some ((M7 (a0 + 200) 1), M7))) else some ((-2), M1))
set_option maxHeartbeats 4000000 in
set_option maxRecDepth 100000 in
theorem c_X8_play {l : Launch} {w : Wp} {L : Ly} {a0 : Nat} {M : Mm} {R0 : Int32 × Mm} (h0 : LTramWires w L (a0)) (hf : f_X8_play a0 M = some R0) : CT l w L yX8_play cX8_play 1 (some .int) 6 [.ref a0] M R0 := by
  unfold f_X8_play at hf
  refine CT_of pn_X8 (Nat.le_of_ble_eq_true rfl) (fun E cx en => ?_)
  have cx : Ok w L E RX8 cX8_play 1 6 := cx
  show G l w L E M [(0, .ref a0)] 0 []
  refine g_aload_n (pc := 0) cx dX8_play_0 rfl 0 rfl ?_
  refine fg_X8_40 (pc := 1) cx dX8_play_1 h0 ?_
  refine g_aload_n (pc := 4) cx dX8_play_4 rfl 0 rfl ?_
  refine fg_X8_10 (pc := 5) cx dX8_play_5 h0 ?_
  refine g_aload_n (pc := 8) cx dX8_play_8 rfl 0 rfl ?_
  refine fg_X8_26 (pc := 9) cx dX8_play_9 h0 ?_
  obtain ⟨q3, M1, hc2, hf⟩ := obn_some2 hf
  refine g_callVv (pc := 12) [.ref (a0 + 1), .ref (a0 + 195)] [] cx lk_X8_242 vw_X4 (LRehearsal_o (LTramWires_rehearsal h0)) (by decide) (c_X4_tryText (LTramWires_rehearsal h0) (LTramWires_now h0) (LTramWires_text h0) hc2) dX8_play_12 (Nat.le_of_ble_eq_true rfl) ?_
  refine g_aload_n (pc := 15) cx dX8_play_15 rfl 0 rfl ?_
  refine fg_X8_40 (pc := 16) cx dX8_play_16 h0 ?_
  refine fg_X8_246 (pc := 19) cx dX8_play_19 (LTramWires_rehearsal h0) ?_
  refine g_if_eq (pc := 22) (tgt := 28) cx dX8_play_22 rfl hf (fun hf => ?_) (fun hf => ?_)
  · refine g_aload_n (pc := 28) cx dX8_play_28 rfl 0 rfl ?_
    refine fg_X8_19 (pc := 29) cx dX8_play_29 h0 ?_
    refine g_aload_n (pc := 32) cx dX8_play_32 rfl 0 rfl ?_
    refine fg_X8_10 (pc := 33) cx dX8_play_33 h0 ?_
    obtain ⟨q6, M4, hc5, hf⟩ := obn_some2 hf
    refine g_callVv (pc := 36) [.ref (a0 + 1)] [] cx lk_X8_58 vw_X0 (LHistory_o (LTramWires_history h0)) (by decide) (c_X0_keep (LTramWires_history h0) (LTramWires_now h0) hc5) dX8_play_36 (Nat.le_of_ble_eq_true rfl) ?_
    refine g_aload_n (pc := 39) cx dX8_play_39 rfl 0 rfl ?_
    refine fg_X8_10 (pc := 40) cx dX8_play_40 h0 ?_
    refine g_aload_n (pc := 43) cx dX8_play_43 rfl 0 rfl ?_
    refine fg_X8_40 (pc := 44) cx dX8_play_44 h0 ?_
    refine fg_X8_252 (pc := 47) cx dX8_play_47 (LTramWires_rehearsal h0) ?_
    obtain ⟨q9, M7, hc8, hf⟩ := obn_some2 hf
    refine g_callVv (pc := 50) [.ref ((a0 + 200) + 1)] [] cx lk_X8_255 vw_X7 (LWires_o (LTramWires_now h0)) (by decide) (c_X7_copyFrom (LTramWires_now h0) (LRehearsal_wires (LTramWires_rehearsal h0)) hc8) dX8_play_50 (Nat.le_of_ble_eq_true rfl) ?_
    refine g_aload_n (pc := 53) cx dX8_play_53 rfl 0 rfl ?_
    refine fg_X8_40 (pc := 54) cx dX8_play_54 h0 ?_
    refine fg_X8_225 (pc := 57) cx dX8_play_57 (LTramWires_rehearsal h0) ?_
    exact g_iret (pc := 60) cx en dX8_play_60 rfl hf
  · refine g_bipush (pc := 25) (v := (-2)) cx dX8_play_25 (by decide) ?_
    exact g_iret (pc := 27) cx en dX8_play_27 rfl hf
