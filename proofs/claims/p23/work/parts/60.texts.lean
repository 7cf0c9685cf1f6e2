/-! L_texts_3 -/
def b_L_texts_97 (X : Nat) (M : Mm) : OR := some (0, M)
def b_L_texts_157 (X : Nat) (M : Mm) : OR := some (0, M)
def b_L_texts_223 (X : Nat) (M : Mm) : OR := some (0, M)
def b_L_texts_296 (X : Nat) (M : Mm) : OR := some (0, M)
def b_L_texts_358 (X : Nat) (M : Mm) : OR := some (0, M)
def b_L_texts_418 (X : Nat) (M : Mm) : OR := some (0, M)
def b_L_texts_478 (X : Nat) (M : Mm) : OR := some (0, M)
def b_L_texts_616 (X : Nat) (M : Mm) : OR := some (0, M)
def b_L_texts_651 (X : Nat) (M : Mm) : OR := some (0, M)
def b_L_texts_714 (X : Nat) (M : Mm) (s0 : Int32) : OR := some (s0, M)
def b_L_texts_713 (X : Nat) (M : Mm) : OR := b_L_texts_714 X M 0
def b_L_texts_700 (X : Nat) (M : Mm) : OR := obn (f_X8_clearText X M) fun q3 M1 => (if q3 = 60 then b_L_texts_714 X M1 1 else b_L_texts_713 X M1)
def b_L_texts_690 (X : Nat) (M : Mm) : OR := obn (f_X8_type X M 31) fun q3 M1 => (if q3 = (-1) then b_L_texts_700 X M1 else b_L_texts_713 X M1)
def b_L_texts_661 (X : Nat) (rc655 : Mm → Int32 → OR) (M : Mm) (x3 : Int32) : OR := obn (f_X8_type X M 48) fun q3 M1 => (if q3 = x3 then rc655 M1 (x3 + 1) else some (0, M1))
def l_L_texts_655 (X : Nat) : Nat → Mm → Int32 → OR
  | 0, _, _ => none
  | k + 1, M, x3 => if 60 < x3 then obn (f_X8_type X M 48) fun q3 M1 => (if q3 = (-3) then b_L_texts_690 X M1 else b_L_texts_713 X M1) else b_L_texts_661 X (l_L_texts_655 X k) M x3
def b_L_texts_642 (X : Nat) (M : Mm) (j1 : Int64) : OR := obn (f_L_state X M) fun q3 M1 => (if (jcmp q3 j1) = 0 then l_L_texts_655 X FU M1 4 else b_L_texts_651 X M1)
def b_L_texts_633 (X : Nat) (M : Mm) (j1 : Int64) : OR := obn (f_X8_play X M) fun q3 M1 => (if q3 = (-2) then b_L_texts_642 X M1 j1 else b_L_texts_651 X M1)
def b_L_texts_607 (X : Nat) (M : Mm) (j1 : Int64) : OR := obn (f_X8_clearText X M) fun q3 M1 => (if q3 = 18 then obn (f_L_isFault X M1 6631483 0 0 0 72) fun q6 M4 => (if q6 = 0 then b_L_texts_651 X M4 else b_L_texts_633 X M4 j1) else b_L_texts_616 X M1)
def b_L_texts_598 (X : Nat) (M : Mm) (j1 : Int64) : OR := obn (f_L_state X M) fun q3 M1 => (if (jcmp q3 j1) = 0 then b_L_texts_607 X M1 j1 else b_L_texts_616 X M1)
def b_L_texts_590 (X : Nat) (M : Mm) (j1 : Int64) : OR := obn (f_X8_undo X M) fun q3 M1 => (if q3 = 4 then b_L_texts_598 X M1 j1 else b_L_texts_616 X M1)
def b_L_texts_581 (X : Nat) (M : Mm) (j1 : Int64) : OR := obn (f_X8_count X M 4) fun q3 M1 => (if q3 = 3 then b_L_texts_590 X M1 j1 else b_L_texts_616 X M1)
def b_L_texts_569 (X : Nat) (M : Mm) (j1 : Int64) : OR := obn (f_X8_log X M 6 0) fun q3 M1 => (if q3 = (-4) then b_L_texts_581 X M1 j1 else b_L_texts_616 X M1)
def b_L_texts_559 (X : Nat) (M : Mm) (j1 : Int64) : OR := obn (f_X8_log X M 5 1) fun q3 M1 => (if q3 = 2 then b_L_texts_569 X M1 j1 else b_L_texts_616 X M1)
def b_L_texts_550 (X : Nat) (M : Mm) (j1 : Int64) : OR := obn (f_X8_log X M 5 0) fun q3 M1 => (if q3 = 0 then b_L_texts_559 X M1 j1 else b_L_texts_616 X M1)
def b_L_texts_540 (X : Nat) (M : Mm) (j1 : Int64) : OR := obn (f_X8_log X M 0 0) fun q3 M1 => (if q3 = 1 then b_L_texts_550 X M1 j1 else b_L_texts_616 X M1)
def b_L_texts_529 (X : Nat) (M : Mm) (j1 : Int64) : OR := obn (f_X8_count X M 10) fun q3 M1 => (if q3 = 6 then b_L_texts_540 X M1 j1 else b_L_texts_616 X M1)
def b_L_texts_518 (X : Nat) (M : Mm) (j1 : Int64) : OR := obn (f_X8_count X M 9) fun q3 M1 => (if q3 = 6 then b_L_texts_529 X M1 j1 else b_L_texts_616 X M1)
def b_L_texts_509 (X : Nat) (M : Mm) (j1 : Int64) : OR := obn (f_X8_play X M) fun q3 M1 => (if q3 = 6 then b_L_texts_518 X M1 j1 else b_L_texts_616 X M1)
def b_L_texts_489 (X : Nat) (M : Mm) (j1 : Int64) : OR := obn (f_L_isFault X M 7075783313305855282 4284385851161525108 12859 (-4) (-4)) fun q3 M1 => (if q3 = 0 then b_L_texts_616 X M1 else b_L_texts_509 X M1 j1)
def b_L_texts_462 (X : Nat) (M : Mm) (j1 : Int64) : OR := obn (f_L_isFault X M 107967885357627 0 0 (-4) (-4)) fun q3 M1 => (if q3 = 0 then b_L_texts_478 X M1 else obn (f_L_state X M1) fun q6 M4 => (if (jcmp q6 j1) = 0 then b_L_texts_489 X M4 j1 else b_L_texts_616 X M4))
def b_L_texts_448 (X : Nat) (M : Mm) (j1 : Int64) : OR := obn (f_L_isFault X M 1647328059 0 0 3 1) fun q3 M1 => (if q3 = 0 then b_L_texts_478 X M1 else b_L_texts_462 X M1 j1)
def b_L_texts_434 (X : Nat) (M : Mm) (j1 : Int64) : OR := obn (f_L_isFault X M 543305787 0 0 0 1) fun q3 M1 => (if q3 = 0 then b_L_texts_478 X M1 else b_L_texts_448 X M1 j1)
def b_L_texts_404 (X : Nat) (M : Mm) (j1 : Int64) : OR := obn (f_L_isFault X M 4337723 0 0 0 1) fun q3 M1 => (if q3 = 0 then b_L_texts_418 X M1 else obn (f_L_isFault X M1 25147 0 0 0 1) fun q6 M4 => (if q6 = 0 then b_L_texts_478 X M4 else b_L_texts_434 X M4 j1))
def b_L_texts_390 (X : Nat) (M : Mm) (j1 : Int64) : OR := obn (f_L_isFault X M 0 0 0 (-4) (-4)) fun q3 M1 => (if q3 = 0 then b_L_texts_418 X M1 else b_L_texts_404 X M1 j1)
def b_L_texts_375 (X : Nat) (M : Mm) (j1 : Int64) : OR := obn (f_L_isFault X M 6500411 0 0 0 41) fun q3 M1 => (if q3 = 0 then b_L_texts_418 X M1 else b_L_texts_390 X M1 j1)
def b_L_texts_343 (X : Nat) (M : Mm) (j1 : Int64) : OR := obn (f_L_isFault X M 6697275 0 0 0 51) fun q3 M1 => (if q3 = 0 then b_L_texts_358 X M1 else obn (f_L_isFault X M1 7680059 0 0 0 81) fun q6 M4 => (if q6 = 0 then b_L_texts_418 X M4 else b_L_texts_375 X M4 j1))
def b_L_texts_328 (X : Nat) (M : Mm) (j1 : Int64) : OR := obn (f_L_isFault X M 7221563 0 0 0 61) fun q3 M1 => (if q3 = 0 then b_L_texts_358 X M1 else b_L_texts_343 X M1 j1)
def b_L_texts_313 (X : Nat) (M : Mm) (j1 : Int64) : OR := obn (f_L_isFault X M 7221307 0 0 0 61) fun q3 M1 => (if q3 = 0 then b_L_texts_358 X M1 else b_L_texts_328 X M1 j1)
def b_L_texts_281 (X : Nat) (M : Mm) (j1 : Int64) : OR := obn (f_L_isFault X M 6631483 0 0 0 72) fun q3 M1 => (if q3 = 0 then b_L_texts_296 X M1 else obn (f_L_isFault X M1 7614523 0 0 0 21) fun q6 M4 => (if q6 = 0 then b_L_texts_358 X M4 else b_L_texts_313 X M4 j1))
def b_L_texts_261 (X : Nat) (M : Mm) (j1 : Int64) : OR := obn (f_L_isFault X M 7075783313305855282 4284385851161525108 12859 (-4) (-4)) fun q3 M1 => (if q3 = 0 then b_L_texts_296 X M1 else b_L_texts_281 X M1 j1)
def b_L_texts_243 (X : Nat) (M : Mm) (j1 : Int64) : OR := obn (f_L_isFault X M 7075783313305855282 996356411 0 9 42) fun q3 M1 => (if q3 = 0 then b_L_texts_296 X M1 else b_L_texts_261 X M1 j1)
def b_L_texts_205 (X : Nat) (M : Mm) (j1 : Int64) : OR := obn (f_L_isFault X M 7075220307517858354 59 0 6 12) fun q3 M1 => (if q3 = 0 then b_L_texts_223 X M1 else obn (f_L_isFault X M1 7075783313305855282 59 0 (-4) (-4)) fun q6 M4 => (if q6 = 0 then b_L_texts_296 X M4 else b_L_texts_243 X M4 j1))
def b_L_texts_187 (X : Nat) (M : Mm) (j1 : Int64) : OR := obn (f_L_isFault X M 7075783313305855536 59 0 6 52) fun q3 M1 => (if q3 = 0 then b_L_texts_223 X M1 else b_L_texts_205 X M1 j1)
def b_L_texts_173 (X : Nat) (M : Mm) (j1 : Int64) : OR := obn (f_L_isFault X M 1866021179 0 0 0 2) fun q3 M1 => (if q3 = 0 then b_L_texts_223 X M1 else b_L_texts_187 X M1 j1)
def b_L_texts_142 (X : Nat) (M : Mm) (j1 : Int64) : OR := obn (f_L_isFault X M 7286843 0 0 0 32) fun q3 M1 => (if q3 = 0 then b_L_texts_157 X M1 else obn (f_L_isFault X M1 7287355 0 0 0 2) fun q6 M4 => (if q6 = 0 then b_L_texts_223 X M4 else b_L_texts_173 X M4 j1))
def b_L_texts_127 (X : Nat) (M : Mm) (j1 : Int64) : OR := obn (f_L_isFault X M 107959294242875 0 0 3 11) fun q3 M1 => (if q3 = 0 then b_L_texts_157 X M1 else b_L_texts_142 X M1 j1)
def b_L_texts_113 (X : Nat) (M : Mm) (j1 : Int64) : OR := obn (f_L_isFault X M 7876667 0 0 0 1) fun q3 M1 => (if q3 = 0 then b_L_texts_157 X M1 else b_L_texts_127 X M1 j1)
def b_L_texts_81 (X : Nat) (M : Mm) (j1 : Int64) : OR := obn (f_L_isFault X M 1647325243 0 0 (-4) (-4)) fun q3 M1 => (if q3 = 0 then b_L_texts_97 X M1 else obn (f_L_isFault X M1 421715259451 0 0 0 1) fun q6 M4 => (if q6 = 0 then b_L_texts_157 X M4 else b_L_texts_113 X M4 j1))
def b_L_texts_67 (X : Nat) (M : Mm) (j1 : Int64) : OR := obn (f_L_isFault X M 25136 0 0 0 1) fun q3 M1 => (if q3 = 0 then b_L_texts_97 X M1 else b_L_texts_81 X M1 j1)
def b_L_texts_53 (X : Nat) (M : Mm) (j1 : Int64) : OR := obn (f_L_isFault X M 6437179 0 0 0 2) fun q3 M1 => (if q3 = 0 then b_L_texts_97 X M1 else b_L_texts_67 X M1 j1)
def b_L_texts_30 (X : Nat) (M : Mm) : OR := some (0, M)
def b_L_texts_20 (X : Nat) (M : Mm) : OR := obn (f_X8_count X M 14) fun q3 M1 => (if q3 = 5 then obn (f_L_state X M1) fun q6 M4 => (obn (f_L_isFault X M4 6434875 0 0 (-4) (-4)) fun q9 M7 => (if q9 = 0 then b_L_texts_97 X M7 else b_L_texts_53 X M7 q6)) else b_L_texts_30 X M1)
def b_L_texts_13 (X : Nat) (M : Mm) : OR := obn (f_X8_play X M) fun q3 M1 => (if q3 = 0 then b_L_texts_20 X M1 else b_L_texts_30 X M1)
def f_L_texts_3 (X : Nat) (M : Mm) : OR := obn (f_X8_count X M 0) fun q3 M1 => (if q3 = 3 then b_L_texts_13 X M1 else b_L_texts_30 X M1)
set_option maxHeartbeats 4000000 in
set_option maxRecDepth 100000 in
theorem w_L_texts_97 {l : Launch} {w : Wp} {L : Ly} {E : Cx} {X : Nat} {R0 : Int32 × Mm} (cx : Ok w L E RL cL_texts 4 8) (en : EnB E R0) (h1 : LTramWires w L X) {M : Mm} (hf : b_L_texts_97 X M = some R0) : G l w L E M [] 97 [] := by
  unfold b_L_texts_97 at hf
  refine g_iconst (pc := 97) (v := 0) cx dL_texts_97 (by decide) ?_
  exact g_tret (pc := 98) cx en dL_texts_98 hf
set_option maxHeartbeats 4000000 in
set_option maxRecDepth 100000 in
theorem w_L_texts_157 {l : Launch} {w : Wp} {L : Ly} {E : Cx} {X : Nat} {R0 : Int32 × Mm} (cx : Ok w L E RL cL_texts 4 8) (en : EnB E R0) (h1 : LTramWires w L X) {M : Mm} (hf : b_L_texts_157 X M = some R0) : G l w L E M [] 157 [] := by
  unfold b_L_texts_157 at hf
  refine g_iconst (pc := 157) (v := 0) cx dL_texts_157 (by decide) ?_
  exact g_tret (pc := 158) cx en dL_texts_158 hf
set_option maxHeartbeats 4000000 in
set_option maxRecDepth 100000 in
theorem w_L_texts_223 {l : Launch} {w : Wp} {L : Ly} {E : Cx} {X : Nat} {R0 : Int32 × Mm} (cx : Ok w L E RL cL_texts 4 8) (en : EnB E R0) (h1 : LTramWires w L X) {M : Mm} (hf : b_L_texts_223 X M = some R0) : G l w L E M [] 223 [] := by
  unfold b_L_texts_223 at hf
  refine g_iconst (pc := 223) (v := 0) cx dL_texts_223 (by decide) ?_
  exact g_tret (pc := 224) cx en dL_texts_224 hf
set_option maxHeartbeats 4000000 in
set_option maxRecDepth 100000 in
theorem w_L_texts_296 {l : Launch} {w : Wp} {L : Ly} {E : Cx} {X : Nat} {R0 : Int32 × Mm} (cx : Ok w L E RL cL_texts 4 8) (en : EnB E R0) (h1 : LTramWires w L X) {M : Mm} (hf : b_L_texts_296 X M = some R0) : G l w L E M [] 296 [] := by
  unfold b_L_texts_296 at hf
  refine g_iconst (pc := 296) (v := 0) cx dL_texts_296 (by decide) ?_
  exact g_tret (pc := 297) cx en dL_texts_297 hf
set_option maxHeartbeats 4000000 in
set_option maxRecDepth 100000 in
theorem w_L_texts_358 {l : Launch} {w : Wp} {L : Ly} {E : Cx} {X : Nat} {R0 : Int32 × Mm} (cx : Ok w L E RL cL_texts 4 8) (en : EnB E R0) (h1 : LTramWires w L X) {M : Mm} (hf : b_L_texts_358 X M = some R0) : G l w L E M [] 358 [] := by
  unfold b_L_texts_358 at hf
  refine g_iconst (pc := 358) (v := 0) cx dL_texts_358 (by decide) ?_
  exact g_tret (pc := 359) cx en dL_texts_359 hf
set_option maxHeartbeats 4000000 in
set_option maxRecDepth 100000 in
theorem w_L_texts_418 {l : Launch} {w : Wp} {L : Ly} {E : Cx} {X : Nat} {R0 : Int32 × Mm} (cx : Ok w L E RL cL_texts 4 8) (en : EnB E R0) (h1 : LTramWires w L X) {M : Mm} (hf : b_L_texts_418 X M = some R0) : G l w L E M [] 418 [] := by
  unfold b_L_texts_418 at hf
  refine g_iconst (pc := 418) (v := 0) cx dL_texts_418 (by decide) ?_
  exact g_tret (pc := 419) cx en dL_texts_419 hf
set_option maxHeartbeats 4000000 in
set_option maxRecDepth 100000 in
theorem w_L_texts_478 {l : Launch} {w : Wp} {L : Ly} {E : Cx} {X : Nat} {R0 : Int32 × Mm} (cx : Ok w L E RL cL_texts 4 8) (en : EnB E R0) (h1 : LTramWires w L X) {M : Mm} (hf : b_L_texts_478 X M = some R0) : G l w L E M [] 478 [] := by
  unfold b_L_texts_478 at hf
  refine g_iconst (pc := 478) (v := 0) cx dL_texts_478 (by decide) ?_
  exact g_tret (pc := 479) cx en dL_texts_479 hf
set_option maxHeartbeats 4000000 in
set_option maxRecDepth 100000 in
theorem w_L_texts_616 {l : Launch} {w : Wp} {L : Ly} {E : Cx} {X : Nat} {R0 : Int32 × Mm} (cx : Ok w L E RL cL_texts 4 8) (en : EnB E R0) (h1 : LTramWires w L X) {M : Mm} (hf : b_L_texts_616 X M = some R0) : G l w L E M [] 616 [] := by
  unfold b_L_texts_616 at hf
  refine g_iconst (pc := 616) (v := 0) cx dL_texts_616 (by decide) ?_
  exact g_tret (pc := 617) cx en dL_texts_617 hf
set_option maxHeartbeats 4000000 in
set_option maxRecDepth 100000 in
theorem w_L_texts_651 {l : Launch} {w : Wp} {L : Ly} {E : Cx} {X : Nat} {R0 : Int32 × Mm} (cx : Ok w L E RL cL_texts 4 8) (en : EnB E R0) (h1 : LTramWires w L X) {M : Mm} (hf : b_L_texts_651 X M = some R0) : G l w L E M [] 651 [] := by
  unfold b_L_texts_651 at hf
  refine g_iconst (pc := 651) (v := 0) cx dL_texts_651 (by decide) ?_
  exact g_tret (pc := 652) cx en dL_texts_652 hf
set_option maxHeartbeats 4000000 in
set_option maxRecDepth 100000 in
theorem w_L_texts_714 {l : Launch} {w : Wp} {L : Ly} {E : Cx} {X : Nat} {s0 : Int32} {R0 : Int32 × Mm} (cx : Ok w L E RL cL_texts 4 8) (en : EnB E R0) (h1 : LTramWires w L X) {M : Mm} (hf : b_L_texts_714 X M s0 = some R0) : G l w L E M [] 714 [.int s0] := by
  unfold b_L_texts_714 at hf
  exact g_tret (pc := 714) cx en dL_texts_714 hf
set_option maxHeartbeats 4000000 in
set_option maxRecDepth 100000 in
theorem w_L_texts_713 {l : Launch} {w : Wp} {L : Ly} {E : Cx} {X : Nat} {R0 : Int32 × Mm} (cx : Ok w L E RL cL_texts 4 8) (en : EnB E R0) (h1 : LTramWires w L X) {M : Mm} (hf : b_L_texts_713 X M = some R0) : G l w L E M [] 713 [] := by
  unfold b_L_texts_713 at hf
  refine g_iconst (pc := 713) (v := 0) cx dL_texts_713 (by decide) ?_
  exact w_L_texts_714 cx en h1 hf
set_option maxHeartbeats 4000000 in
set_option maxRecDepth 100000 in
theorem w_L_texts_700 {l : Launch} {w : Wp} {L : Ly} {E : Cx} {X : Nat} {R0 : Int32 × Mm} (cx : Ok w L E RL cL_texts 4 8) (en : EnB E R0) (h1 : LTramWires w L X) {M : Mm} (hf : b_L_texts_700 X M = some R0) : G l w L E M [(0, .ref X)] 700 [] := by
  unfold b_L_texts_700 at hf
  refine g_aload_n (pc := 700) cx dL_texts_700 rfl 0 rfl ?_
  obtain ⟨q3, M1, hc2, hf⟩ := obn_some2 hf
  refine g_callVi (pc := 701) [] [] cx lk_L_86 vw_X8 (LTramWires_o h1) (by decide) (c_X8_clearText h1 hc2) dL_texts_701 (Nat.le_of_ble_eq_true rfl) ?_
  refine g_bipush (pc := 704) (v := 60) cx dL_texts_704 (by decide) ?_
  refine g_icmp_ne (pc := 706) (tgt := 713) cx dL_texts_706 rfl hf (fun hf => ?_) (fun hf => ?_)
  · refine g_iconst (pc := 709) (v := 1) cx dL_texts_709 (by decide) ?_
    refine g_goto (pc := 710) (tgt := 714) cx dL_texts_710 rfl ?_
    refine g_sub [] [] rfl ?_
    exact w_L_texts_714 cx en h1 hf
  · refine g_sub [] [] rfl ?_
    exact w_L_texts_713 cx en h1 hf
set_option maxHeartbeats 4000000 in
set_option maxRecDepth 100000 in
theorem w_L_texts_690 {l : Launch} {w : Wp} {L : Ly} {E : Cx} {X : Nat} {R0 : Int32 × Mm} (cx : Ok w L E RL cL_texts 4 8) (en : EnB E R0) (h1 : LTramWires w L X) {M : Mm} (hf : b_L_texts_690 X M = some R0) : G l w L E M [(0, .ref X)] 690 [] := by
  unfold b_L_texts_690 at hf
  refine g_aload_n (pc := 690) cx dL_texts_690 rfl 0 rfl ?_
  refine g_bipush (pc := 691) (v := 31) cx dL_texts_691 (by decide) ?_
  obtain ⟨q3, M1, hc2, hf⟩ := obn_some2 hf
  refine g_callVi (pc := 693) [.int 31] [] cx lk_L_77 vw_X8 (LTramWires_o h1) (by decide) (c_X8_type h1 hc2) dL_texts_693 (Nat.le_of_ble_eq_true rfl) ?_
  refine g_iconst (pc := 696) (v := (-1)) cx dL_texts_696 (by decide) ?_
  refine g_icmp_ne (pc := 697) (tgt := 713) cx dL_texts_697 rfl hf (fun hf => ?_) (fun hf => ?_)
  · exact w_L_texts_700 cx en h1 hf
  · refine g_sub [] [] rfl ?_
    exact w_L_texts_713 cx en h1 hf
set_option maxHeartbeats 4000000 in
set_option maxRecDepth 100000 in
theorem w_L_texts_661 {l : Launch} {w : Wp} {L : Ly} {E : Cx} {X : Nat} {rc655 : Mm → Int32 → OR} {x3 : Int32} {R0 : Int32 × Mm} (cx : Ok w L E RL cL_texts 4 8) (en : EnB E R0) (h1 : LTramWires w L X) (hrc655 : ∀ (M : Mm) (x3 : Int32), rc655 M x3 = some R0 → G l w L E M [(0, .ref X), (3, .int x3)] 655 []) {M : Mm} (hf : b_L_texts_661 X rc655 M x3 = some R0) : G l w L E M [(0, .ref X), (3, .int x3)] 661 [] := by
  unfold b_L_texts_661 at hf
  refine g_aload_n (pc := 661) cx dL_texts_661 rfl 0 rfl ?_
  refine g_bipush (pc := 662) (v := 48) cx dL_texts_662 (by decide) ?_
  obtain ⟨q3, M1, hc2, hf⟩ := obn_some2 hf
  refine g_callVi (pc := 664) [.int 48] [] cx lk_L_77 vw_X8 (LTramWires_o h1) (by decide) (c_X8_type h1 hc2) dL_texts_664 (Nat.le_of_ble_eq_true rfl) ?_
  refine g_iload_n (pc := 667) cx dL_texts_667 rfl 1 rfl ?_
  refine g_icmp_eq (pc := 668) (tgt := 673) cx dL_texts_668 rfl hf (fun hf => ?_) (fun hf => ?_)
  · refine g_iinc (pc := 673) cx [(3, .int (x3 + 1)), (0, .ref X)] dL_texts_673 1 rfl rfl (by decide) rfl ?_
    refine g_goto (pc := 676) (tgt := 655) cx dL_texts_676 rfl ?_
    refine g_sub [1, 0] [(0, .ref X), (3, .int (x3 + 1))] rfl ?_
    exact hrc655 _ _ hf
  · refine g_iconst (pc := 671) (v := 0) cx dL_texts_671 (by decide) ?_
    exact g_tret (pc := 672) cx en dL_texts_672 hf
set_option maxHeartbeats 4000000 in
set_option maxRecDepth 100000 in
theorem w_L_texts_655 {l : Launch} {w : Wp} {L : Ly} {E : Cx} {X : Nat} {R0 : Int32 × Mm} (cx : Ok w L E RL cL_texts 4 8) (en : EnB E R0) (h1 : LTramWires w L X) : ∀ (k : Nat) {M : Mm} {x3 : Int32}, l_L_texts_655 X k M x3 = some R0 → G l w L E M [(0, .ref X), (3, .int x3)] 655 [] := by
  intro k
  induction k with
  | zero =>
    intro M x3 hf
    exact absurd hf (by simp [l_L_texts_655])
  | succ k ih =>
    intro M x3 hf
    unfold l_L_texts_655 at hf
    refine g_iload_n (pc := 655) cx dL_texts_655 rfl 1 rfl ?_
    refine g_bipush (pc := 656) (v := 60) cx dL_texts_656 (by decide) ?_
    refine g_icmp_gt (pc := 658) (tgt := 679) cx dL_texts_658 rfl hf (fun hf => ?_) (fun hf => ?_)
    · refine g_aload_n (pc := 679) cx dL_texts_679 rfl 0 rfl ?_
      refine g_bipush (pc := 680) (v := 48) cx dL_texts_680 (by decide) ?_
      obtain ⟨q3, M1, hc2, hf⟩ := obn_some2 hf
      refine g_callVi (pc := 682) [.int 48] [] cx lk_L_77 vw_X8 (LTramWires_o h1) (by decide) (c_X8_type h1 hc2) dL_texts_682 (Nat.le_of_ble_eq_true rfl) ?_
      refine g_bipush (pc := 685) (v := (-3)) cx dL_texts_685 (by decide) ?_
      refine g_icmp_ne (pc := 687) (tgt := 713) cx dL_texts_687 rfl hf (fun hf => ?_) (fun hf => ?_)
      · refine g_sub [0] [(0, .ref X)] rfl ?_
        exact w_L_texts_690 cx en h1 hf
      · refine g_sub [] [] rfl ?_
        exact w_L_texts_713 cx en h1 hf
    · exact w_L_texts_661 cx en h1 (fun _ _ hf => ih hf) hf
set_option maxHeartbeats 4000000 in
set_option maxRecDepth 100000 in
theorem w_L_texts_642 {l : Launch} {w : Wp} {L : Ly} {E : Cx} {X : Nat} {j1 : Int64} {R0 : Int32 × Mm} (cx : Ok w L E RL cL_texts 4 8) (en : EnB E R0) (h1 : LTramWires w L X) {M : Mm} (hf : b_L_texts_642 X M j1 = some R0) : G l w L E M [(0, .ref X), (1, .long j1)] 642 [] := by
  unfold b_L_texts_642 at hf
  refine g_aload_n (pc := 642) cx dL_texts_642 rfl 0 rfl ?_
  obtain ⟨q3, M1, hc2, hf⟩ := obn_some2 hf
  refine g_callSj (pc := 643) [.ref X] [] cx lk_L_60 (by decide) (c_L_state h1 hc2) dL_texts_643 (Nat.le_of_ble_eq_true rfl) ?_
  refine g_lload_n (pc := 646) cx dL_texts_646 rfl 1 rfl ?_
  refine g_lcmp (pc := 647) cx dL_texts_647 ?_
  refine g_if_eq (pc := 648) (tgt := 653) cx dL_texts_648 rfl hf (fun hf => ?_) (fun hf => ?_)
  · refine g_iconst (pc := 653) (v := 4) cx dL_texts_653 (by decide) ?_
    refine g_istore_n (pc := 654) cx [(3, .int 4), (0, .ref X), (1, .long j1)] dL_texts_654 rfl (by decide) rfl ?_
    refine g_sub [1, 0] [(0, .ref X), (3, .int 4)] rfl ?_
    exact w_L_texts_655 cx en h1 FU hf
  · refine g_sub [] [] rfl ?_
    exact w_L_texts_651 cx en h1 hf
set_option maxHeartbeats 4000000 in
set_option maxRecDepth 100000 in
theorem w_L_texts_633 {l : Launch} {w : Wp} {L : Ly} {E : Cx} {X : Nat} {j1 : Int64} {R0 : Int32 × Mm} (cx : Ok w L E RL cL_texts 4 8) (en : EnB E R0) (h1 : LTramWires w L X) {M : Mm} (hf : b_L_texts_633 X M j1 = some R0) : G l w L E M [(0, .ref X), (1, .long j1)] 633 [] := by
  unfold b_L_texts_633 at hf
  refine g_aload_n (pc := 633) cx dL_texts_633 rfl 0 rfl ?_
  obtain ⟨q3, M1, hc2, hf⟩ := obn_some2 hf
  refine g_callVi (pc := 634) [] [] cx lk_L_99 vw_X8 (LTramWires_o h1) (by decide) (c_X8_play h1 hc2) dL_texts_634 (Nat.le_of_ble_eq_true rfl) ?_
  refine g_bipush (pc := 637) (v := (-2)) cx dL_texts_637 (by decide) ?_
  refine g_icmp_ne (pc := 639) (tgt := 651) cx dL_texts_639 rfl hf (fun hf => ?_) (fun hf => ?_)
  · exact w_L_texts_642 cx en h1 hf
  · refine g_sub [] [] rfl ?_
    exact w_L_texts_651 cx en h1 hf
set_option maxHeartbeats 4000000 in
set_option maxRecDepth 100000 in
theorem w_L_texts_607 {l : Launch} {w : Wp} {L : Ly} {E : Cx} {X : Nat} {j1 : Int64} {R0 : Int32 × Mm} (cx : Ok w L E RL cL_texts 4 8) (en : EnB E R0) (h1 : LTramWires w L X) {M : Mm} (hf : b_L_texts_607 X M j1 = some R0) : G l w L E M [(0, .ref X), (1, .long j1)] 607 [] := by
  unfold b_L_texts_607 at hf
  refine g_aload_n (pc := 607) cx dL_texts_607 rfl 0 rfl ?_
  obtain ⟨q3, M1, hc2, hf⟩ := obn_some2 hf
  refine g_callVi (pc := 608) [] [] cx lk_L_86 vw_X8 (LTramWires_o h1) (by decide) (c_X8_clearText h1 hc2) dL_texts_608 (Nat.le_of_ble_eq_true rfl) ?_
  refine g_bipush (pc := 611) (v := 18) cx dL_texts_611 (by decide) ?_
  refine g_icmp_eq (pc := 613) (tgt := 618) cx dL_texts_613 rfl hf (fun hf => ?_) (fun hf => ?_)
  · refine g_aload_n (pc := 618) cx dL_texts_618 rfl 0 rfl ?_
    refine g_ldc2 (pc := 619) cx tj_L_140 dL_texts_619 ?_
    refine g_lconst (pc := 622) (v := 0) cx dL_texts_622 (by decide) ?_
    refine g_lconst (pc := 623) (v := 0) cx dL_texts_623 (by decide) ?_
    refine g_iconst (pc := 624) (v := 0) cx dL_texts_624 (by decide) ?_
    refine g_bipush (pc := 625) (v := 72) cx dL_texts_625 (by decide) ?_
    obtain ⟨q6, M4, hc5, hf⟩ := obn_some2 hf
    refine g_callSi (pc := 627) [.ref X, .long 6631483, .long 0, .long 0, .int 0, .int 72] [] cx lk_L_104 (by decide) (c_L_isFault h1 hc5) dL_texts_627 (Nat.le_of_ble_eq_true rfl) ?_
    refine g_if_eq (pc := 630) (tgt := 651) cx dL_texts_630 rfl hf (fun hf => ?_) (fun hf => ?_)
    · refine g_sub [] [] rfl ?_
      exact w_L_texts_651 cx en h1 hf
    · exact w_L_texts_633 cx en h1 hf
  · refine g_sub [] [] rfl ?_
    exact w_L_texts_616 cx en h1 hf
set_option maxHeartbeats 4000000 in
set_option maxRecDepth 100000 in
theorem w_L_texts_598 {l : Launch} {w : Wp} {L : Ly} {E : Cx} {X : Nat} {j1 : Int64} {R0 : Int32 × Mm} (cx : Ok w L E RL cL_texts 4 8) (en : EnB E R0) (h1 : LTramWires w L X) {M : Mm} (hf : b_L_texts_598 X M j1 = some R0) : G l w L E M [(0, .ref X), (1, .long j1)] 598 [] := by
  unfold b_L_texts_598 at hf
  refine g_aload_n (pc := 598) cx dL_texts_598 rfl 0 rfl ?_
  obtain ⟨q3, M1, hc2, hf⟩ := obn_some2 hf
  refine g_callSj (pc := 599) [.ref X] [] cx lk_L_60 (by decide) (c_L_state h1 hc2) dL_texts_599 (Nat.le_of_ble_eq_true rfl) ?_
  refine g_lload_n (pc := 602) cx dL_texts_602 rfl 1 rfl ?_
  refine g_lcmp (pc := 603) cx dL_texts_603 ?_
  refine g_if_ne (pc := 604) (tgt := 616) cx dL_texts_604 rfl hf (fun hf => ?_) (fun hf => ?_)
  · exact w_L_texts_607 cx en h1 hf
  · refine g_sub [] [] rfl ?_
    exact w_L_texts_616 cx en h1 hf
set_option maxHeartbeats 4000000 in
set_option maxRecDepth 100000 in
theorem w_L_texts_590 {l : Launch} {w : Wp} {L : Ly} {E : Cx} {X : Nat} {j1 : Int64} {R0 : Int32 × Mm} (cx : Ok w L E RL cL_texts 4 8) (en : EnB E R0) (h1 : LTramWires w L X) {M : Mm} (hf : b_L_texts_590 X M j1 = some R0) : G l w L E M [(0, .ref X), (1, .long j1)] 590 [] := by
  unfold b_L_texts_590 at hf
  refine g_aload_n (pc := 590) cx dL_texts_590 rfl 0 rfl ?_
  obtain ⟨q3, M1, hc2, hf⟩ := obn_some2 hf
  refine g_callVi (pc := 591) [] [] cx lk_L_164 vw_X8 (LTramWires_o h1) (by decide) (c_X8_undo h1 hc2) dL_texts_591 (Nat.le_of_ble_eq_true rfl) ?_
  refine g_iconst (pc := 594) (v := 4) cx dL_texts_594 (by decide) ?_
  refine g_icmp_ne (pc := 595) (tgt := 616) cx dL_texts_595 rfl hf (fun hf => ?_) (fun hf => ?_)
  · exact w_L_texts_598 cx en h1 hf
  · refine g_sub [] [] rfl ?_
    exact w_L_texts_616 cx en h1 hf
set_option maxHeartbeats 4000000 in
set_option maxRecDepth 100000 in
theorem w_L_texts_581 {l : Launch} {w : Wp} {L : Ly} {E : Cx} {X : Nat} {j1 : Int64} {R0 : Int32 × Mm} (cx : Ok w L E RL cL_texts 4 8) (en : EnB E R0) (h1 : LTramWires w L X) {M : Mm} (hf : b_L_texts_581 X M j1 = some R0) : G l w L E M [(0, .ref X), (1, .long j1)] 581 [] := by
  unfold b_L_texts_581 at hf
  refine g_aload_n (pc := 581) cx dL_texts_581 rfl 0 rfl ?_
  refine g_iconst (pc := 582) (v := 4) cx dL_texts_582 (by decide) ?_
  obtain ⟨q3, M1, hc2, hf⟩ := obn_some2 hf
  refine g_callVi (pc := 583) [.int 4] [] cx lk_L_13 vw_X8 (LTramWires_o h1) (by decide) (c_X8_count h1 hc2) dL_texts_583 (Nat.le_of_ble_eq_true rfl) ?_
  refine g_iconst (pc := 586) (v := 3) cx dL_texts_586 (by decide) ?_
  refine g_icmp_ne (pc := 587) (tgt := 616) cx dL_texts_587 rfl hf (fun hf => ?_) (fun hf => ?_)
  · exact w_L_texts_590 cx en h1 hf
  · refine g_sub [] [] rfl ?_
    exact w_L_texts_616 cx en h1 hf
set_option maxHeartbeats 4000000 in
set_option maxRecDepth 100000 in
theorem w_L_texts_569 {l : Launch} {w : Wp} {L : Ly} {E : Cx} {X : Nat} {j1 : Int64} {R0 : Int32 × Mm} (cx : Ok w L E RL cL_texts 4 8) (en : EnB E R0) (h1 : LTramWires w L X) {M : Mm} (hf : b_L_texts_569 X M j1 = some R0) : G l w L E M [(0, .ref X), (1, .long j1)] 569 [] := by
  unfold b_L_texts_569 at hf
  refine g_aload_n (pc := 569) cx dL_texts_569 rfl 0 rfl ?_
  refine g_bipush (pc := 570) (v := 6) cx dL_texts_570 (by decide) ?_
  refine g_iconst (pc := 572) (v := 0) cx dL_texts_572 (by decide) ?_
  obtain ⟨q3, M1, hc2, hf⟩ := obn_some2 hf
  refine g_callVi (pc := 573) [.int 6, .int 0] [] cx lk_L_32 vw_X8 (LTramWires_o h1) (by decide) (c_X8_log h1 hc2) dL_texts_573 (Nat.le_of_ble_eq_true rfl) ?_
  refine g_bipush (pc := 576) (v := (-4)) cx dL_texts_576 (by decide) ?_
  refine g_icmp_ne (pc := 578) (tgt := 616) cx dL_texts_578 rfl hf (fun hf => ?_) (fun hf => ?_)
  · exact w_L_texts_581 cx en h1 hf
  · refine g_sub [] [] rfl ?_
    exact w_L_texts_616 cx en h1 hf
set_option maxHeartbeats 4000000 in
set_option maxRecDepth 100000 in
theorem w_L_texts_559 {l : Launch} {w : Wp} {L : Ly} {E : Cx} {X : Nat} {j1 : Int64} {R0 : Int32 × Mm} (cx : Ok w L E RL cL_texts 4 8) (en : EnB E R0) (h1 : LTramWires w L X) {M : Mm} (hf : b_L_texts_559 X M j1 = some R0) : G l w L E M [(0, .ref X), (1, .long j1)] 559 [] := by
  unfold b_L_texts_559 at hf
  refine g_aload_n (pc := 559) cx dL_texts_559 rfl 0 rfl ?_
  refine g_iconst (pc := 560) (v := 5) cx dL_texts_560 (by decide) ?_
  refine g_iconst (pc := 561) (v := 1) cx dL_texts_561 (by decide) ?_
  obtain ⟨q3, M1, hc2, hf⟩ := obn_some2 hf
  refine g_callVi (pc := 562) [.int 5, .int 1] [] cx lk_L_32 vw_X8 (LTramWires_o h1) (by decide) (c_X8_log h1 hc2) dL_texts_562 (Nat.le_of_ble_eq_true rfl) ?_
  refine g_iconst (pc := 565) (v := 2) cx dL_texts_565 (by decide) ?_
  refine g_icmp_ne (pc := 566) (tgt := 616) cx dL_texts_566 rfl hf (fun hf => ?_) (fun hf => ?_)
  · exact w_L_texts_569 cx en h1 hf
  · refine g_sub [] [] rfl ?_
    exact w_L_texts_616 cx en h1 hf
set_option maxHeartbeats 4000000 in
set_option maxRecDepth 100000 in
theorem w_L_texts_550 {l : Launch} {w : Wp} {L : Ly} {E : Cx} {X : Nat} {j1 : Int64} {R0 : Int32 × Mm} (cx : Ok w L E RL cL_texts 4 8) (en : EnB E R0) (h1 : LTramWires w L X) {M : Mm} (hf : b_L_texts_550 X M j1 = some R0) : G l w L E M [(0, .ref X), (1, .long j1)] 550 [] := by
  unfold b_L_texts_550 at hf
  refine g_aload_n (pc := 550) cx dL_texts_550 rfl 0 rfl ?_
  refine g_iconst (pc := 551) (v := 5) cx dL_texts_551 (by decide) ?_
  refine g_iconst (pc := 552) (v := 0) cx dL_texts_552 (by decide) ?_
  obtain ⟨q3, M1, hc2, hf⟩ := obn_some2 hf
  refine g_callVi (pc := 553) [.int 5, .int 0] [] cx lk_L_32 vw_X8 (LTramWires_o h1) (by decide) (c_X8_log h1 hc2) dL_texts_553 (Nat.le_of_ble_eq_true rfl) ?_
  refine g_if_ne (pc := 556) (tgt := 616) cx dL_texts_556 rfl hf (fun hf => ?_) (fun hf => ?_)
  · exact w_L_texts_559 cx en h1 hf
  · refine g_sub [] [] rfl ?_
    exact w_L_texts_616 cx en h1 hf
set_option maxHeartbeats 4000000 in
set_option maxRecDepth 100000 in
theorem w_L_texts_540 {l : Launch} {w : Wp} {L : Ly} {E : Cx} {X : Nat} {j1 : Int64} {R0 : Int32 × Mm} (cx : Ok w L E RL cL_texts 4 8) (en : EnB E R0) (h1 : LTramWires w L X) {M : Mm} (hf : b_L_texts_540 X M j1 = some R0) : G l w L E M [(0, .ref X), (1, .long j1)] 540 [] := by
  unfold b_L_texts_540 at hf
  refine g_aload_n (pc := 540) cx dL_texts_540 rfl 0 rfl ?_
  refine g_iconst (pc := 541) (v := 0) cx dL_texts_541 (by decide) ?_
  refine g_iconst (pc := 542) (v := 0) cx dL_texts_542 (by decide) ?_
  obtain ⟨q3, M1, hc2, hf⟩ := obn_some2 hf
  refine g_callVi (pc := 543) [.int 0, .int 0] [] cx lk_L_32 vw_X8 (LTramWires_o h1) (by decide) (c_X8_log h1 hc2) dL_texts_543 (Nat.le_of_ble_eq_true rfl) ?_
  refine g_iconst (pc := 546) (v := 1) cx dL_texts_546 (by decide) ?_
  refine g_icmp_ne (pc := 547) (tgt := 616) cx dL_texts_547 rfl hf (fun hf => ?_) (fun hf => ?_)
  · exact w_L_texts_550 cx en h1 hf
  · refine g_sub [] [] rfl ?_
    exact w_L_texts_616 cx en h1 hf
set_option maxHeartbeats 4000000 in
set_option maxRecDepth 100000 in
theorem w_L_texts_529 {l : Launch} {w : Wp} {L : Ly} {E : Cx} {X : Nat} {j1 : Int64} {R0 : Int32 × Mm} (cx : Ok w L E RL cL_texts 4 8) (en : EnB E R0) (h1 : LTramWires w L X) {M : Mm} (hf : b_L_texts_529 X M j1 = some R0) : G l w L E M [(0, .ref X), (1, .long j1)] 529 [] := by
  unfold b_L_texts_529 at hf
  refine g_aload_n (pc := 529) cx dL_texts_529 rfl 0 rfl ?_
  refine g_bipush (pc := 530) (v := 10) cx dL_texts_530 (by decide) ?_
  obtain ⟨q3, M1, hc2, hf⟩ := obn_some2 hf
  refine g_callVi (pc := 532) [.int 10] [] cx lk_L_13 vw_X8 (LTramWires_o h1) (by decide) (c_X8_count h1 hc2) dL_texts_532 (Nat.le_of_ble_eq_true rfl) ?_
  refine g_bipush (pc := 535) (v := 6) cx dL_texts_535 (by decide) ?_
  refine g_icmp_ne (pc := 537) (tgt := 616) cx dL_texts_537 rfl hf (fun hf => ?_) (fun hf => ?_)
  · exact w_L_texts_540 cx en h1 hf
  · refine g_sub [] [] rfl ?_
    exact w_L_texts_616 cx en h1 hf
set_option maxHeartbeats 4000000 in
set_option maxRecDepth 100000 in
theorem w_L_texts_518 {l : Launch} {w : Wp} {L : Ly} {E : Cx} {X : Nat} {j1 : Int64} {R0 : Int32 × Mm} (cx : Ok w L E RL cL_texts 4 8) (en : EnB E R0) (h1 : LTramWires w L X) {M : Mm} (hf : b_L_texts_518 X M j1 = some R0) : G l w L E M [(0, .ref X), (1, .long j1)] 518 [] := by
  unfold b_L_texts_518 at hf
  refine g_aload_n (pc := 518) cx dL_texts_518 rfl 0 rfl ?_
  refine g_bipush (pc := 519) (v := 9) cx dL_texts_519 (by decide) ?_
  obtain ⟨q3, M1, hc2, hf⟩ := obn_some2 hf
  refine g_callVi (pc := 521) [.int 9] [] cx lk_L_13 vw_X8 (LTramWires_o h1) (by decide) (c_X8_count h1 hc2) dL_texts_521 (Nat.le_of_ble_eq_true rfl) ?_
  refine g_bipush (pc := 524) (v := 6) cx dL_texts_524 (by decide) ?_
  refine g_icmp_ne (pc := 526) (tgt := 616) cx dL_texts_526 rfl hf (fun hf => ?_) (fun hf => ?_)
  · exact w_L_texts_529 cx en h1 hf
  · refine g_sub [] [] rfl ?_
    exact w_L_texts_616 cx en h1 hf
set_option maxHeartbeats 4000000 in
set_option maxRecDepth 100000 in
theorem w_L_texts_509 {l : Launch} {w : Wp} {L : Ly} {E : Cx} {X : Nat} {j1 : Int64} {R0 : Int32 × Mm} (cx : Ok w L E RL cL_texts 4 8) (en : EnB E R0) (h1 : LTramWires w L X) {M : Mm} (hf : b_L_texts_509 X M j1 = some R0) : G l w L E M [(0, .ref X), (1, .long j1)] 509 [] := by
  unfold b_L_texts_509 at hf
  refine g_aload_n (pc := 509) cx dL_texts_509 rfl 0 rfl ?_
  obtain ⟨q3, M1, hc2, hf⟩ := obn_some2 hf
  refine g_callVi (pc := 510) [] [] cx lk_L_99 vw_X8 (LTramWires_o h1) (by decide) (c_X8_play h1 hc2) dL_texts_510 (Nat.le_of_ble_eq_true rfl) ?_
  refine g_bipush (pc := 513) (v := 6) cx dL_texts_513 (by decide) ?_
  refine g_icmp_ne (pc := 515) (tgt := 616) cx dL_texts_515 rfl hf (fun hf => ?_) (fun hf => ?_)
  · exact w_L_texts_518 cx en h1 hf
  · refine g_sub [] [] rfl ?_
    exact w_L_texts_616 cx en h1 hf
set_option maxHeartbeats 4000000 in
set_option maxRecDepth 100000 in
theorem w_L_texts_489 {l : Launch} {w : Wp} {L : Ly} {E : Cx} {X : Nat} {j1 : Int64} {R0 : Int32 × Mm} (cx : Ok w L E RL cL_texts 4 8) (en : EnB E R0) (h1 : LTramWires w L X) {M : Mm} (hf : b_L_texts_489 X M j1 = some R0) : G l w L E M [(0, .ref X), (1, .long j1)] 489 [] := by
  unfold b_L_texts_489 at hf
  refine g_aload_n (pc := 489) cx dL_texts_489 rfl 0 rfl ?_
  refine g_ldc2 (pc := 490) cx tj_L_132 dL_texts_490 ?_
  refine g_ldc2 (pc := 493) cx tj_L_136 dL_texts_493 ?_
  refine g_ldc2 (pc := 496) cx tj_L_138 dL_texts_496 ?_
  refine g_bipush (pc := 499) (v := (-4)) cx dL_texts_499 (by decide) ?_
  refine g_bipush (pc := 501) (v := (-4)) cx dL_texts_501 (by decide) ?_
  obtain ⟨q3, M1, hc2, hf⟩ := obn_some2 hf
  refine g_callSi (pc := 503) [.ref X, .long 7075783313305855282, .long 4284385851161525108, .long 12859, .int (-4), .int (-4)] [] cx lk_L_104 (by decide) (c_L_isFault h1 hc2) dL_texts_503 (Nat.le_of_ble_eq_true rfl) ?_
  refine g_if_eq (pc := 506) (tgt := 616) cx dL_texts_506 rfl hf (fun hf => ?_) (fun hf => ?_)
  · refine g_sub [] [] rfl ?_
    exact w_L_texts_616 cx en h1 hf
  · exact w_L_texts_509 cx en h1 hf
set_option maxHeartbeats 4000000 in
set_option maxRecDepth 100000 in
theorem w_L_texts_462 {l : Launch} {w : Wp} {L : Ly} {E : Cx} {X : Nat} {j1 : Int64} {R0 : Int32 × Mm} (cx : Ok w L E RL cL_texts 4 8) (en : EnB E R0) (h1 : LTramWires w L X) {M : Mm} (hf : b_L_texts_462 X M j1 = some R0) : G l w L E M [(0, .ref X), (1, .long j1)] 462 [] := by
  unfold b_L_texts_462 at hf
  refine g_aload_n (pc := 462) cx dL_texts_462 rfl 0 rfl ?_
  refine g_ldc2 (pc := 463) cx tj_L_162 dL_texts_463 ?_
  refine g_lconst (pc := 466) (v := 0) cx dL_texts_466 (by decide) ?_
  refine g_lconst (pc := 467) (v := 0) cx dL_texts_467 (by decide) ?_
  refine g_bipush (pc := 468) (v := (-4)) cx dL_texts_468 (by decide) ?_
  refine g_bipush (pc := 470) (v := (-4)) cx dL_texts_470 (by decide) ?_
  obtain ⟨q3, M1, hc2, hf⟩ := obn_some2 hf
  refine g_callSi (pc := 472) [.ref X, .long 107967885357627, .long 0, .long 0, .int (-4), .int (-4)] [] cx lk_L_104 (by decide) (c_L_isFault h1 hc2) dL_texts_472 (Nat.le_of_ble_eq_true rfl) ?_
  refine g_if_ne (pc := 475) (tgt := 480) cx dL_texts_475 rfl hf (fun hf => ?_) (fun hf => ?_)
  · refine g_sub [] [] rfl ?_
    exact w_L_texts_478 cx en h1 hf
  · refine g_aload_n (pc := 480) cx dL_texts_480 rfl 0 rfl ?_
    obtain ⟨q6, M4, hc5, hf⟩ := obn_some2 hf
    refine g_callSj (pc := 481) [.ref X] [] cx lk_L_60 (by decide) (c_L_state h1 hc5) dL_texts_481 (Nat.le_of_ble_eq_true rfl) ?_
    refine g_lload_n (pc := 484) cx dL_texts_484 rfl 1 rfl ?_
    refine g_lcmp (pc := 485) cx dL_texts_485 ?_
    refine g_if_ne (pc := 486) (tgt := 616) cx dL_texts_486 rfl hf (fun hf => ?_) (fun hf => ?_)
    · exact w_L_texts_489 cx en h1 hf
    · refine g_sub [] [] rfl ?_
      exact w_L_texts_616 cx en h1 hf
set_option maxHeartbeats 4000000 in
set_option maxRecDepth 100000 in
theorem w_L_texts_448 {l : Launch} {w : Wp} {L : Ly} {E : Cx} {X : Nat} {j1 : Int64} {R0 : Int32 × Mm} (cx : Ok w L E RL cL_texts 4 8) (en : EnB E R0) (h1 : LTramWires w L X) {M : Mm} (hf : b_L_texts_448 X M j1 = some R0) : G l w L E M [(0, .ref X), (1, .long j1)] 448 [] := by
  unfold b_L_texts_448 at hf
  refine g_aload_n (pc := 448) cx dL_texts_448 rfl 0 rfl ?_
  refine g_ldc2 (pc := 449) cx tj_L_160 dL_texts_449 ?_
  refine g_lconst (pc := 452) (v := 0) cx dL_texts_452 (by decide) ?_
  refine g_lconst (pc := 453) (v := 0) cx dL_texts_453 (by decide) ?_
  refine g_iconst (pc := 454) (v := 3) cx dL_texts_454 (by decide) ?_
  refine g_iconst (pc := 455) (v := 1) cx dL_texts_455 (by decide) ?_
  obtain ⟨q3, M1, hc2, hf⟩ := obn_some2 hf
  refine g_callSi (pc := 456) [.ref X, .long 1647328059, .long 0, .long 0, .int 3, .int 1] [] cx lk_L_104 (by decide) (c_L_isFault h1 hc2) dL_texts_456 (Nat.le_of_ble_eq_true rfl) ?_
  refine g_if_eq (pc := 459) (tgt := 478) cx dL_texts_459 rfl hf (fun hf => ?_) (fun hf => ?_)
  · refine g_sub [] [] rfl ?_
    exact w_L_texts_478 cx en h1 hf
  · exact w_L_texts_462 cx en h1 hf
set_option maxHeartbeats 4000000 in
set_option maxRecDepth 100000 in
theorem w_L_texts_434 {l : Launch} {w : Wp} {L : Ly} {E : Cx} {X : Nat} {j1 : Int64} {R0 : Int32 × Mm} (cx : Ok w L E RL cL_texts 4 8) (en : EnB E R0) (h1 : LTramWires w L X) {M : Mm} (hf : b_L_texts_434 X M j1 = some R0) : G l w L E M [(0, .ref X), (1, .long j1)] 434 [] := by
  unfold b_L_texts_434 at hf
  refine g_aload_n (pc := 434) cx dL_texts_434 rfl 0 rfl ?_
  refine g_ldc2 (pc := 435) cx tj_L_158 dL_texts_435 ?_
  refine g_lconst (pc := 438) (v := 0) cx dL_texts_438 (by decide) ?_
  refine g_lconst (pc := 439) (v := 0) cx dL_texts_439 (by decide) ?_
  refine g_iconst (pc := 440) (v := 0) cx dL_texts_440 (by decide) ?_
  refine g_iconst (pc := 441) (v := 1) cx dL_texts_441 (by decide) ?_
  obtain ⟨q3, M1, hc2, hf⟩ := obn_some2 hf
  refine g_callSi (pc := 442) [.ref X, .long 543305787, .long 0, .long 0, .int 0, .int 1] [] cx lk_L_104 (by decide) (c_L_isFault h1 hc2) dL_texts_442 (Nat.le_of_ble_eq_true rfl) ?_
  refine g_if_eq (pc := 445) (tgt := 478) cx dL_texts_445 rfl hf (fun hf => ?_) (fun hf => ?_)
  · refine g_sub [] [] rfl ?_
    exact w_L_texts_478 cx en h1 hf
  · exact w_L_texts_448 cx en h1 hf
set_option maxHeartbeats 4000000 in
set_option maxRecDepth 100000 in
theorem w_L_texts_404 {l : Launch} {w : Wp} {L : Ly} {E : Cx} {X : Nat} {j1 : Int64} {R0 : Int32 × Mm} (cx : Ok w L E RL cL_texts 4 8) (en : EnB E R0) (h1 : LTramWires w L X) {M : Mm} (hf : b_L_texts_404 X M j1 = some R0) : G l w L E M [(0, .ref X), (1, .long j1)] 404 [] := by
  unfold b_L_texts_404 at hf
  refine g_aload_n (pc := 404) cx dL_texts_404 rfl 0 rfl ?_
  refine g_ldc2 (pc := 405) cx tj_L_154 dL_texts_405 ?_
  refine g_lconst (pc := 408) (v := 0) cx dL_texts_408 (by decide) ?_
  refine g_lconst (pc := 409) (v := 0) cx dL_texts_409 (by decide) ?_
  refine g_iconst (pc := 410) (v := 0) cx dL_texts_410 (by decide) ?_
  refine g_iconst (pc := 411) (v := 1) cx dL_texts_411 (by decide) ?_
  obtain ⟨q3, M1, hc2, hf⟩ := obn_some2 hf
  refine g_callSi (pc := 412) [.ref X, .long 4337723, .long 0, .long 0, .int 0, .int 1] [] cx lk_L_104 (by decide) (c_L_isFault h1 hc2) dL_texts_412 (Nat.le_of_ble_eq_true rfl) ?_
  refine g_if_ne (pc := 415) (tgt := 420) cx dL_texts_415 rfl hf (fun hf => ?_) (fun hf => ?_)
  · refine g_sub [] [] rfl ?_
    exact w_L_texts_418 cx en h1 hf
  · refine g_aload_n (pc := 420) cx dL_texts_420 rfl 0 rfl ?_
    refine g_ldc2 (pc := 421) cx tj_L_156 dL_texts_421 ?_
    refine g_lconst (pc := 424) (v := 0) cx dL_texts_424 (by decide) ?_
    refine g_lconst (pc := 425) (v := 0) cx dL_texts_425 (by decide) ?_
    refine g_iconst (pc := 426) (v := 0) cx dL_texts_426 (by decide) ?_
    refine g_iconst (pc := 427) (v := 1) cx dL_texts_427 (by decide) ?_
    obtain ⟨q6, M4, hc5, hf⟩ := obn_some2 hf
    refine g_callSi (pc := 428) [.ref X, .long 25147, .long 0, .long 0, .int 0, .int 1] [] cx lk_L_104 (by decide) (c_L_isFault h1 hc5) dL_texts_428 (Nat.le_of_ble_eq_true rfl) ?_
    refine g_if_eq (pc := 431) (tgt := 478) cx dL_texts_431 rfl hf (fun hf => ?_) (fun hf => ?_)
    · refine g_sub [] [] rfl ?_
      exact w_L_texts_478 cx en h1 hf
    · exact w_L_texts_434 cx en h1 hf
set_option maxHeartbeats 4000000 in
set_option maxRecDepth 100000 in
theorem w_L_texts_390 {l : Launch} {w : Wp} {L : Ly} {E : Cx} {X : Nat} {j1 : Int64} {R0 : Int32 × Mm} (cx : Ok w L E RL cL_texts 4 8) (en : EnB E R0) (h1 : LTramWires w L X) {M : Mm} (hf : b_L_texts_390 X M j1 = some R0) : G l w L E M [(0, .ref X), (1, .long j1)] 390 [] := by
  unfold b_L_texts_390 at hf
  refine g_aload_n (pc := 390) cx dL_texts_390 rfl 0 rfl ?_
  refine g_lconst (pc := 391) (v := 0) cx dL_texts_391 (by decide) ?_
  refine g_lconst (pc := 392) (v := 0) cx dL_texts_392 (by decide) ?_
  refine g_lconst (pc := 393) (v := 0) cx dL_texts_393 (by decide) ?_
  refine g_bipush (pc := 394) (v := (-4)) cx dL_texts_394 (by decide) ?_
  refine g_bipush (pc := 396) (v := (-4)) cx dL_texts_396 (by decide) ?_
  obtain ⟨q3, M1, hc2, hf⟩ := obn_some2 hf
  refine g_callSi (pc := 398) [.ref X, .long 0, .long 0, .long 0, .int (-4), .int (-4)] [] cx lk_L_104 (by decide) (c_L_isFault h1 hc2) dL_texts_398 (Nat.le_of_ble_eq_true rfl) ?_
  refine g_if_eq (pc := 401) (tgt := 418) cx dL_texts_401 rfl hf (fun hf => ?_) (fun hf => ?_)
  · refine g_sub [] [] rfl ?_
    exact w_L_texts_418 cx en h1 hf
  · exact w_L_texts_404 cx en h1 hf
set_option maxHeartbeats 4000000 in
set_option maxRecDepth 100000 in
theorem w_L_texts_375 {l : Launch} {w : Wp} {L : Ly} {E : Cx} {X : Nat} {j1 : Int64} {R0 : Int32 × Mm} (cx : Ok w L E RL cL_texts 4 8) (en : EnB E R0) (h1 : LTramWires w L X) {M : Mm} (hf : b_L_texts_375 X M j1 = some R0) : G l w L E M [(0, .ref X), (1, .long j1)] 375 [] := by
  unfold b_L_texts_375 at hf
  refine g_aload_n (pc := 375) cx dL_texts_375 rfl 0 rfl ?_
  refine g_ldc2 (pc := 376) cx tj_L_152 dL_texts_376 ?_
  refine g_lconst (pc := 379) (v := 0) cx dL_texts_379 (by decide) ?_
  refine g_lconst (pc := 380) (v := 0) cx dL_texts_380 (by decide) ?_
  refine g_iconst (pc := 381) (v := 0) cx dL_texts_381 (by decide) ?_
  refine g_bipush (pc := 382) (v := 41) cx dL_texts_382 (by decide) ?_
  obtain ⟨q3, M1, hc2, hf⟩ := obn_some2 hf
  refine g_callSi (pc := 384) [.ref X, .long 6500411, .long 0, .long 0, .int 0, .int 41] [] cx lk_L_104 (by decide) (c_L_isFault h1 hc2) dL_texts_384 (Nat.le_of_ble_eq_true rfl) ?_
  refine g_if_eq (pc := 387) (tgt := 418) cx dL_texts_387 rfl hf (fun hf => ?_) (fun hf => ?_)
  · refine g_sub [] [] rfl ?_
    exact w_L_texts_418 cx en h1 hf
  · exact w_L_texts_390 cx en h1 hf
set_option maxHeartbeats 4000000 in
set_option maxRecDepth 100000 in
theorem w_L_texts_343 {l : Launch} {w : Wp} {L : Ly} {E : Cx} {X : Nat} {j1 : Int64} {R0 : Int32 × Mm} (cx : Ok w L E RL cL_texts 4 8) (en : EnB E R0) (h1 : LTramWires w L X) {M : Mm} (hf : b_L_texts_343 X M j1 = some R0) : G l w L E M [(0, .ref X), (1, .long j1)] 343 [] := by
  unfold b_L_texts_343 at hf
  refine g_aload_n (pc := 343) cx dL_texts_343 rfl 0 rfl ?_
  refine g_ldc2 (pc := 344) cx tj_L_148 dL_texts_344 ?_
  refine g_lconst (pc := 347) (v := 0) cx dL_texts_347 (by decide) ?_
  refine g_lconst (pc := 348) (v := 0) cx dL_texts_348 (by decide) ?_
  refine g_iconst (pc := 349) (v := 0) cx dL_texts_349 (by decide) ?_
  refine g_bipush (pc := 350) (v := 51) cx dL_texts_350 (by decide) ?_
  obtain ⟨q3, M1, hc2, hf⟩ := obn_some2 hf
  refine g_callSi (pc := 352) [.ref X, .long 6697275, .long 0, .long 0, .int 0, .int 51] [] cx lk_L_104 (by decide) (c_L_isFault h1 hc2) dL_texts_352 (Nat.le_of_ble_eq_true rfl) ?_
  refine g_if_ne (pc := 355) (tgt := 360) cx dL_texts_355 rfl hf (fun hf => ?_) (fun hf => ?_)
  · refine g_sub [] [] rfl ?_
    exact w_L_texts_358 cx en h1 hf
  · refine g_aload_n (pc := 360) cx dL_texts_360 rfl 0 rfl ?_
    refine g_ldc2 (pc := 361) cx tj_L_150 dL_texts_361 ?_
    refine g_lconst (pc := 364) (v := 0) cx dL_texts_364 (by decide) ?_
    refine g_lconst (pc := 365) (v := 0) cx dL_texts_365 (by decide) ?_
    refine g_iconst (pc := 366) (v := 0) cx dL_texts_366 (by decide) ?_
    refine g_bipush (pc := 367) (v := 81) cx dL_texts_367 (by decide) ?_
    obtain ⟨q6, M4, hc5, hf⟩ := obn_some2 hf
    refine g_callSi (pc := 369) [.ref X, .long 7680059, .long 0, .long 0, .int 0, .int 81] [] cx lk_L_104 (by decide) (c_L_isFault h1 hc5) dL_texts_369 (Nat.le_of_ble_eq_true rfl) ?_
    refine g_if_eq (pc := 372) (tgt := 418) cx dL_texts_372 rfl hf (fun hf => ?_) (fun hf => ?_)
    · refine g_sub [] [] rfl ?_
      exact w_L_texts_418 cx en h1 hf
    · exact w_L_texts_375 cx en h1 hf
set_option maxHeartbeats 4000000 in
set_option maxRecDepth 100000 in
theorem w_L_texts_328 {l : Launch} {w : Wp} {L : Ly} {E : Cx} {X : Nat} {j1 : Int64} {R0 : Int32 × Mm} (cx : Ok w L E RL cL_texts 4 8) (en : EnB E R0) (h1 : LTramWires w L X) {M : Mm} (hf : b_L_texts_328 X M j1 = some R0) : G l w L E M [(0, .ref X), (1, .long j1)] 328 [] := by
  unfold b_L_texts_328 at hf
  refine g_aload_n (pc := 328) cx dL_texts_328 rfl 0 rfl ?_
  refine g_ldc2 (pc := 329) cx tj_L_146 dL_texts_329 ?_
  refine g_lconst (pc := 332) (v := 0) cx dL_texts_332 (by decide) ?_
  refine g_lconst (pc := 333) (v := 0) cx dL_texts_333 (by decide) ?_
  refine g_iconst (pc := 334) (v := 0) cx dL_texts_334 (by decide) ?_
  refine g_bipush (pc := 335) (v := 61) cx dL_texts_335 (by decide) ?_
  obtain ⟨q3, M1, hc2, hf⟩ := obn_some2 hf
  refine g_callSi (pc := 337) [.ref X, .long 7221563, .long 0, .long 0, .int 0, .int 61] [] cx lk_L_104 (by decide) (c_L_isFault h1 hc2) dL_texts_337 (Nat.le_of_ble_eq_true rfl) ?_
  refine g_if_eq (pc := 340) (tgt := 358) cx dL_texts_340 rfl hf (fun hf => ?_) (fun hf => ?_)
  · refine g_sub [] [] rfl ?_
    exact w_L_texts_358 cx en h1 hf
  · exact w_L_texts_343 cx en h1 hf
set_option maxHeartbeats 4000000 in
set_option maxRecDepth 100000 in
theorem w_L_texts_313 {l : Launch} {w : Wp} {L : Ly} {E : Cx} {X : Nat} {j1 : Int64} {R0 : Int32 × Mm} (cx : Ok w L E RL cL_texts 4 8) (en : EnB E R0) (h1 : LTramWires w L X) {M : Mm} (hf : b_L_texts_313 X M j1 = some R0) : G l w L E M [(0, .ref X), (1, .long j1)] 313 [] := by
  unfold b_L_texts_313 at hf
  refine g_aload_n (pc := 313) cx dL_texts_313 rfl 0 rfl ?_
  refine g_ldc2 (pc := 314) cx tj_L_144 dL_texts_314 ?_
  refine g_lconst (pc := 317) (v := 0) cx dL_texts_317 (by decide) ?_
  refine g_lconst (pc := 318) (v := 0) cx dL_texts_318 (by decide) ?_
  refine g_iconst (pc := 319) (v := 0) cx dL_texts_319 (by decide) ?_
  refine g_bipush (pc := 320) (v := 61) cx dL_texts_320 (by decide) ?_
  obtain ⟨q3, M1, hc2, hf⟩ := obn_some2 hf
  refine g_callSi (pc := 322) [.ref X, .long 7221307, .long 0, .long 0, .int 0, .int 61] [] cx lk_L_104 (by decide) (c_L_isFault h1 hc2) dL_texts_322 (Nat.le_of_ble_eq_true rfl) ?_
  refine g_if_eq (pc := 325) (tgt := 358) cx dL_texts_325 rfl hf (fun hf => ?_) (fun hf => ?_)
  · refine g_sub [] [] rfl ?_
    exact w_L_texts_358 cx en h1 hf
  · exact w_L_texts_328 cx en h1 hf
set_option maxHeartbeats 4000000 in
set_option maxRecDepth 100000 in
theorem w_L_texts_281 {l : Launch} {w : Wp} {L : Ly} {E : Cx} {X : Nat} {j1 : Int64} {R0 : Int32 × Mm} (cx : Ok w L E RL cL_texts 4 8) (en : EnB E R0) (h1 : LTramWires w L X) {M : Mm} (hf : b_L_texts_281 X M j1 = some R0) : G l w L E M [(0, .ref X), (1, .long j1)] 281 [] := by
  unfold b_L_texts_281 at hf
  refine g_aload_n (pc := 281) cx dL_texts_281 rfl 0 rfl ?_
  refine g_ldc2 (pc := 282) cx tj_L_140 dL_texts_282 ?_
  refine g_lconst (pc := 285) (v := 0) cx dL_texts_285 (by decide) ?_
  refine g_lconst (pc := 286) (v := 0) cx dL_texts_286 (by decide) ?_
  refine g_iconst (pc := 287) (v := 0) cx dL_texts_287 (by decide) ?_
  refine g_bipush (pc := 288) (v := 72) cx dL_texts_288 (by decide) ?_
  obtain ⟨q3, M1, hc2, hf⟩ := obn_some2 hf
  refine g_callSi (pc := 290) [.ref X, .long 6631483, .long 0, .long 0, .int 0, .int 72] [] cx lk_L_104 (by decide) (c_L_isFault h1 hc2) dL_texts_290 (Nat.le_of_ble_eq_true rfl) ?_
  refine g_if_ne (pc := 293) (tgt := 298) cx dL_texts_293 rfl hf (fun hf => ?_) (fun hf => ?_)
  · refine g_sub [] [] rfl ?_
    exact w_L_texts_296 cx en h1 hf
  · refine g_aload_n (pc := 298) cx dL_texts_298 rfl 0 rfl ?_
    refine g_ldc2 (pc := 299) cx tj_L_142 dL_texts_299 ?_
    refine g_lconst (pc := 302) (v := 0) cx dL_texts_302 (by decide) ?_
    refine g_lconst (pc := 303) (v := 0) cx dL_texts_303 (by decide) ?_
    refine g_iconst (pc := 304) (v := 0) cx dL_texts_304 (by decide) ?_
    refine g_bipush (pc := 305) (v := 21) cx dL_texts_305 (by decide) ?_
    obtain ⟨q6, M4, hc5, hf⟩ := obn_some2 hf
    refine g_callSi (pc := 307) [.ref X, .long 7614523, .long 0, .long 0, .int 0, .int 21] [] cx lk_L_104 (by decide) (c_L_isFault h1 hc5) dL_texts_307 (Nat.le_of_ble_eq_true rfl) ?_
    refine g_if_eq (pc := 310) (tgt := 358) cx dL_texts_310 rfl hf (fun hf => ?_) (fun hf => ?_)
    · refine g_sub [] [] rfl ?_
      exact w_L_texts_358 cx en h1 hf
    · exact w_L_texts_313 cx en h1 hf
set_option maxHeartbeats 4000000 in
set_option maxRecDepth 100000 in
theorem w_L_texts_261 {l : Launch} {w : Wp} {L : Ly} {E : Cx} {X : Nat} {j1 : Int64} {R0 : Int32 × Mm} (cx : Ok w L E RL cL_texts 4 8) (en : EnB E R0) (h1 : LTramWires w L X) {M : Mm} (hf : b_L_texts_261 X M j1 = some R0) : G l w L E M [(0, .ref X), (1, .long j1)] 261 [] := by
  unfold b_L_texts_261 at hf
  refine g_aload_n (pc := 261) cx dL_texts_261 rfl 0 rfl ?_
  refine g_ldc2 (pc := 262) cx tj_L_132 dL_texts_262 ?_
  refine g_ldc2 (pc := 265) cx tj_L_136 dL_texts_265 ?_
  refine g_ldc2 (pc := 268) cx tj_L_138 dL_texts_268 ?_
  refine g_bipush (pc := 271) (v := (-4)) cx dL_texts_271 (by decide) ?_
  refine g_bipush (pc := 273) (v := (-4)) cx dL_texts_273 (by decide) ?_
  obtain ⟨q3, M1, hc2, hf⟩ := obn_some2 hf
  refine g_callSi (pc := 275) [.ref X, .long 7075783313305855282, .long 4284385851161525108, .long 12859, .int (-4), .int (-4)] [] cx lk_L_104 (by decide) (c_L_isFault h1 hc2) dL_texts_275 (Nat.le_of_ble_eq_true rfl) ?_
  refine g_if_eq (pc := 278) (tgt := 296) cx dL_texts_278 rfl hf (fun hf => ?_) (fun hf => ?_)
  · refine g_sub [] [] rfl ?_
    exact w_L_texts_296 cx en h1 hf
  · exact w_L_texts_281 cx en h1 hf
set_option maxHeartbeats 4000000 in
set_option maxRecDepth 100000 in
theorem w_L_texts_243 {l : Launch} {w : Wp} {L : Ly} {E : Cx} {X : Nat} {j1 : Int64} {R0 : Int32 × Mm} (cx : Ok w L E RL cL_texts 4 8) (en : EnB E R0) (h1 : LTramWires w L X) {M : Mm} (hf : b_L_texts_243 X M j1 = some R0) : G l w L E M [(0, .ref X), (1, .long j1)] 243 [] := by
  unfold b_L_texts_243 at hf
  refine g_aload_n (pc := 243) cx dL_texts_243 rfl 0 rfl ?_
  refine g_ldc2 (pc := 244) cx tj_L_132 dL_texts_244 ?_
  refine g_ldc2 (pc := 247) cx tj_L_134 dL_texts_247 ?_
  refine g_lconst (pc := 250) (v := 0) cx dL_texts_250 (by decide) ?_
  refine g_bipush (pc := 251) (v := 9) cx dL_texts_251 (by decide) ?_
  refine g_bipush (pc := 253) (v := 42) cx dL_texts_253 (by decide) ?_
  obtain ⟨q3, M1, hc2, hf⟩ := obn_some2 hf
  refine g_callSi (pc := 255) [.ref X, .long 7075783313305855282, .long 996356411, .long 0, .int 9, .int 42] [] cx lk_L_104 (by decide) (c_L_isFault h1 hc2) dL_texts_255 (Nat.le_of_ble_eq_true rfl) ?_
  refine g_if_eq (pc := 258) (tgt := 296) cx dL_texts_258 rfl hf (fun hf => ?_) (fun hf => ?_)
  · refine g_sub [] [] rfl ?_
    exact w_L_texts_296 cx en h1 hf
  · exact w_L_texts_261 cx en h1 hf
set_option maxHeartbeats 4000000 in
set_option maxRecDepth 100000 in
theorem w_L_texts_205 {l : Launch} {w : Wp} {L : Ly} {E : Cx} {X : Nat} {j1 : Int64} {R0 : Int32 × Mm} (cx : Ok w L E RL cL_texts 4 8) (en : EnB E R0) (h1 : LTramWires w L X) {M : Mm} (hf : b_L_texts_205 X M j1 = some R0) : G l w L E M [(0, .ref X), (1, .long j1)] 205 [] := by
  unfold b_L_texts_205 at hf
  refine g_aload_n (pc := 205) cx dL_texts_205 rfl 0 rfl ?_
  refine g_ldc2 (pc := 206) cx tj_L_130 dL_texts_206 ?_
  refine g_ldc2 (pc := 209) cx tj_L_128 dL_texts_209 ?_
  refine g_lconst (pc := 212) (v := 0) cx dL_texts_212 (by decide) ?_
  refine g_bipush (pc := 213) (v := 6) cx dL_texts_213 (by decide) ?_
  refine g_bipush (pc := 215) (v := 12) cx dL_texts_215 (by decide) ?_
  obtain ⟨q3, M1, hc2, hf⟩ := obn_some2 hf
  refine g_callSi (pc := 217) [.ref X, .long 7075220307517858354, .long 59, .long 0, .int 6, .int 12] [] cx lk_L_104 (by decide) (c_L_isFault h1 hc2) dL_texts_217 (Nat.le_of_ble_eq_true rfl) ?_
  refine g_if_ne (pc := 220) (tgt := 225) cx dL_texts_220 rfl hf (fun hf => ?_) (fun hf => ?_)
  · refine g_sub [] [] rfl ?_
    exact w_L_texts_223 cx en h1 hf
  · refine g_aload_n (pc := 225) cx dL_texts_225 rfl 0 rfl ?_
    refine g_ldc2 (pc := 226) cx tj_L_132 dL_texts_226 ?_
    refine g_ldc2 (pc := 229) cx tj_L_128 dL_texts_229 ?_
    refine g_lconst (pc := 232) (v := 0) cx dL_texts_232 (by decide) ?_
    refine g_bipush (pc := 233) (v := (-4)) cx dL_texts_233 (by decide) ?_
    refine g_bipush (pc := 235) (v := (-4)) cx dL_texts_235 (by decide) ?_
    obtain ⟨q6, M4, hc5, hf⟩ := obn_some2 hf
    refine g_callSi (pc := 237) [.ref X, .long 7075783313305855282, .long 59, .long 0, .int (-4), .int (-4)] [] cx lk_L_104 (by decide) (c_L_isFault h1 hc5) dL_texts_237 (Nat.le_of_ble_eq_true rfl) ?_
    refine g_if_eq (pc := 240) (tgt := 296) cx dL_texts_240 rfl hf (fun hf => ?_) (fun hf => ?_)
    · refine g_sub [] [] rfl ?_
      exact w_L_texts_296 cx en h1 hf
    · exact w_L_texts_243 cx en h1 hf
set_option maxHeartbeats 4000000 in
set_option maxRecDepth 100000 in
theorem w_L_texts_187 {l : Launch} {w : Wp} {L : Ly} {E : Cx} {X : Nat} {j1 : Int64} {R0 : Int32 × Mm} (cx : Ok w L E RL cL_texts 4 8) (en : EnB E R0) (h1 : LTramWires w L X) {M : Mm} (hf : b_L_texts_187 X M j1 = some R0) : G l w L E M [(0, .ref X), (1, .long j1)] 187 [] := by
  unfold b_L_texts_187 at hf
  refine g_aload_n (pc := 187) cx dL_texts_187 rfl 0 rfl ?_
  refine g_ldc2 (pc := 188) cx tj_L_126 dL_texts_188 ?_
  refine g_ldc2 (pc := 191) cx tj_L_128 dL_texts_191 ?_
  refine g_lconst (pc := 194) (v := 0) cx dL_texts_194 (by decide) ?_
  refine g_bipush (pc := 195) (v := 6) cx dL_texts_195 (by decide) ?_
  refine g_bipush (pc := 197) (v := 52) cx dL_texts_197 (by decide) ?_
  obtain ⟨q3, M1, hc2, hf⟩ := obn_some2 hf
  refine g_callSi (pc := 199) [.ref X, .long 7075783313305855536, .long 59, .long 0, .int 6, .int 52] [] cx lk_L_104 (by decide) (c_L_isFault h1 hc2) dL_texts_199 (Nat.le_of_ble_eq_true rfl) ?_
  refine g_if_eq (pc := 202) (tgt := 223) cx dL_texts_202 rfl hf (fun hf => ?_) (fun hf => ?_)
  · refine g_sub [] [] rfl ?_
    exact w_L_texts_223 cx en h1 hf
  · exact w_L_texts_205 cx en h1 hf
set_option maxHeartbeats 4000000 in
set_option maxRecDepth 100000 in
theorem w_L_texts_173 {l : Launch} {w : Wp} {L : Ly} {E : Cx} {X : Nat} {j1 : Int64} {R0 : Int32 × Mm} (cx : Ok w L E RL cL_texts 4 8) (en : EnB E R0) (h1 : LTramWires w L X) {M : Mm} (hf : b_L_texts_173 X M j1 = some R0) : G l w L E M [(0, .ref X), (1, .long j1)] 173 [] := by
  unfold b_L_texts_173 at hf
  refine g_aload_n (pc := 173) cx dL_texts_173 rfl 0 rfl ?_
  refine g_ldc2 (pc := 174) cx tj_L_124 dL_texts_174 ?_
  refine g_lconst (pc := 177) (v := 0) cx dL_texts_177 (by decide) ?_
  refine g_lconst (pc := 178) (v := 0) cx dL_texts_178 (by decide) ?_
  refine g_iconst (pc := 179) (v := 0) cx dL_texts_179 (by decide) ?_
  refine g_iconst (pc := 180) (v := 2) cx dL_texts_180 (by decide) ?_
  obtain ⟨q3, M1, hc2, hf⟩ := obn_some2 hf
  refine g_callSi (pc := 181) [.ref X, .long 1866021179, .long 0, .long 0, .int 0, .int 2] [] cx lk_L_104 (by decide) (c_L_isFault h1 hc2) dL_texts_181 (Nat.le_of_ble_eq_true rfl) ?_
  refine g_if_eq (pc := 184) (tgt := 223) cx dL_texts_184 rfl hf (fun hf => ?_) (fun hf => ?_)
  · refine g_sub [] [] rfl ?_
    exact w_L_texts_223 cx en h1 hf
  · exact w_L_texts_187 cx en h1 hf
set_option maxHeartbeats 4000000 in
set_option maxRecDepth 100000 in
theorem w_L_texts_142 {l : Launch} {w : Wp} {L : Ly} {E : Cx} {X : Nat} {j1 : Int64} {R0 : Int32 × Mm} (cx : Ok w L E RL cL_texts 4 8) (en : EnB E R0) (h1 : LTramWires w L X) {M : Mm} (hf : b_L_texts_142 X M j1 = some R0) : G l w L E M [(0, .ref X), (1, .long j1)] 142 [] := by
  unfold b_L_texts_142 at hf
  refine g_aload_n (pc := 142) cx dL_texts_142 rfl 0 rfl ?_
  refine g_ldc2 (pc := 143) cx tj_L_120 dL_texts_143 ?_
  refine g_lconst (pc := 146) (v := 0) cx dL_texts_146 (by decide) ?_
  refine g_lconst (pc := 147) (v := 0) cx dL_texts_147 (by decide) ?_
  refine g_iconst (pc := 148) (v := 0) cx dL_texts_148 (by decide) ?_
  refine g_bipush (pc := 149) (v := 32) cx dL_texts_149 (by decide) ?_
  obtain ⟨q3, M1, hc2, hf⟩ := obn_some2 hf
  refine g_callSi (pc := 151) [.ref X, .long 7286843, .long 0, .long 0, .int 0, .int 32] [] cx lk_L_104 (by decide) (c_L_isFault h1 hc2) dL_texts_151 (Nat.le_of_ble_eq_true rfl) ?_
  refine g_if_ne (pc := 154) (tgt := 159) cx dL_texts_154 rfl hf (fun hf => ?_) (fun hf => ?_)
  · refine g_sub [] [] rfl ?_
    exact w_L_texts_157 cx en h1 hf
  · refine g_aload_n (pc := 159) cx dL_texts_159 rfl 0 rfl ?_
    refine g_ldc2 (pc := 160) cx tj_L_122 dL_texts_160 ?_
    refine g_lconst (pc := 163) (v := 0) cx dL_texts_163 (by decide) ?_
    refine g_lconst (pc := 164) (v := 0) cx dL_texts_164 (by decide) ?_
    refine g_iconst (pc := 165) (v := 0) cx dL_texts_165 (by decide) ?_
    refine g_iconst (pc := 166) (v := 2) cx dL_texts_166 (by decide) ?_
    obtain ⟨q6, M4, hc5, hf⟩ := obn_some2 hf
    refine g_callSi (pc := 167) [.ref X, .long 7287355, .long 0, .long 0, .int 0, .int 2] [] cx lk_L_104 (by decide) (c_L_isFault h1 hc5) dL_texts_167 (Nat.le_of_ble_eq_true rfl) ?_
    refine g_if_eq (pc := 170) (tgt := 223) cx dL_texts_170 rfl hf (fun hf => ?_) (fun hf => ?_)
    · refine g_sub [] [] rfl ?_
      exact w_L_texts_223 cx en h1 hf
    · exact w_L_texts_173 cx en h1 hf
set_option maxHeartbeats 4000000 in
set_option maxRecDepth 100000 in
theorem w_L_texts_127 {l : Launch} {w : Wp} {L : Ly} {E : Cx} {X : Nat} {j1 : Int64} {R0 : Int32 × Mm} (cx : Ok w L E RL cL_texts 4 8) (en : EnB E R0) (h1 : LTramWires w L X) {M : Mm} (hf : b_L_texts_127 X M j1 = some R0) : G l w L E M [(0, .ref X), (1, .long j1)] 127 [] := by
  unfold b_L_texts_127 at hf
  refine g_aload_n (pc := 127) cx dL_texts_127 rfl 0 rfl ?_
  refine g_ldc2 (pc := 128) cx tj_L_118 dL_texts_128 ?_
  refine g_lconst (pc := 131) (v := 0) cx dL_texts_131 (by decide) ?_
  refine g_lconst (pc := 132) (v := 0) cx dL_texts_132 (by decide) ?_
  refine g_iconst (pc := 133) (v := 3) cx dL_texts_133 (by decide) ?_
  refine g_bipush (pc := 134) (v := 11) cx dL_texts_134 (by decide) ?_
  obtain ⟨q3, M1, hc2, hf⟩ := obn_some2 hf
  refine g_callSi (pc := 136) [.ref X, .long 107959294242875, .long 0, .long 0, .int 3, .int 11] [] cx lk_L_104 (by decide) (c_L_isFault h1 hc2) dL_texts_136 (Nat.le_of_ble_eq_true rfl) ?_
  refine g_if_eq (pc := 139) (tgt := 157) cx dL_texts_139 rfl hf (fun hf => ?_) (fun hf => ?_)
  · refine g_sub [] [] rfl ?_
    exact w_L_texts_157 cx en h1 hf
  · exact w_L_texts_142 cx en h1 hf
set_option maxHeartbeats 4000000 in
set_option maxRecDepth 100000 in
theorem w_L_texts_113 {l : Launch} {w : Wp} {L : Ly} {E : Cx} {X : Nat} {j1 : Int64} {R0 : Int32 × Mm} (cx : Ok w L E RL cL_texts 4 8) (en : EnB E R0) (h1 : LTramWires w L X) {M : Mm} (hf : b_L_texts_113 X M j1 = some R0) : G l w L E M [(0, .ref X), (1, .long j1)] 113 [] := by
  unfold b_L_texts_113 at hf
  refine g_aload_n (pc := 113) cx dL_texts_113 rfl 0 rfl ?_
  refine g_ldc2 (pc := 114) cx tj_L_116 dL_texts_114 ?_
  refine g_lconst (pc := 117) (v := 0) cx dL_texts_117 (by decide) ?_
  refine g_lconst (pc := 118) (v := 0) cx dL_texts_118 (by decide) ?_
  refine g_iconst (pc := 119) (v := 0) cx dL_texts_119 (by decide) ?_
  refine g_iconst (pc := 120) (v := 1) cx dL_texts_120 (by decide) ?_
  obtain ⟨q3, M1, hc2, hf⟩ := obn_some2 hf
  refine g_callSi (pc := 121) [.ref X, .long 7876667, .long 0, .long 0, .int 0, .int 1] [] cx lk_L_104 (by decide) (c_L_isFault h1 hc2) dL_texts_121 (Nat.le_of_ble_eq_true rfl) ?_
  refine g_if_eq (pc := 124) (tgt := 157) cx dL_texts_124 rfl hf (fun hf => ?_) (fun hf => ?_)
  · refine g_sub [] [] rfl ?_
    exact w_L_texts_157 cx en h1 hf
  · exact w_L_texts_127 cx en h1 hf
set_option maxHeartbeats 4000000 in
set_option maxRecDepth 100000 in
theorem w_L_texts_81 {l : Launch} {w : Wp} {L : Ly} {E : Cx} {X : Nat} {j1 : Int64} {R0 : Int32 × Mm} (cx : Ok w L E RL cL_texts 4 8) (en : EnB E R0) (h1 : LTramWires w L X) {M : Mm} (hf : b_L_texts_81 X M j1 = some R0) : G l w L E M [(0, .ref X), (1, .long j1)] 81 [] := by
  unfold b_L_texts_81 at hf
  refine g_aload_n (pc := 81) cx dL_texts_81 rfl 0 rfl ?_
  refine g_ldc2 (pc := 82) cx tj_L_112 dL_texts_82 ?_
  refine g_lconst (pc := 85) (v := 0) cx dL_texts_85 (by decide) ?_
  refine g_lconst (pc := 86) (v := 0) cx dL_texts_86 (by decide) ?_
  refine g_bipush (pc := 87) (v := (-4)) cx dL_texts_87 (by decide) ?_
  refine g_bipush (pc := 89) (v := (-4)) cx dL_texts_89 (by decide) ?_
  obtain ⟨q3, M1, hc2, hf⟩ := obn_some2 hf
  refine g_callSi (pc := 91) [.ref X, .long 1647325243, .long 0, .long 0, .int (-4), .int (-4)] [] cx lk_L_104 (by decide) (c_L_isFault h1 hc2) dL_texts_91 (Nat.le_of_ble_eq_true rfl) ?_
  refine g_if_ne (pc := 94) (tgt := 99) cx dL_texts_94 rfl hf (fun hf => ?_) (fun hf => ?_)
  · refine g_sub [] [] rfl ?_
    exact w_L_texts_97 cx en h1 hf
  · refine g_aload_n (pc := 99) cx dL_texts_99 rfl 0 rfl ?_
    refine g_ldc2 (pc := 100) cx tj_L_114 dL_texts_100 ?_
    refine g_lconst (pc := 103) (v := 0) cx dL_texts_103 (by decide) ?_
    refine g_lconst (pc := 104) (v := 0) cx dL_texts_104 (by decide) ?_
    refine g_iconst (pc := 105) (v := 0) cx dL_texts_105 (by decide) ?_
    refine g_iconst (pc := 106) (v := 1) cx dL_texts_106 (by decide) ?_
    obtain ⟨q6, M4, hc5, hf⟩ := obn_some2 hf
    refine g_callSi (pc := 107) [.ref X, .long 421715259451, .long 0, .long 0, .int 0, .int 1] [] cx lk_L_104 (by decide) (c_L_isFault h1 hc5) dL_texts_107 (Nat.le_of_ble_eq_true rfl) ?_
    refine g_if_eq (pc := 110) (tgt := 157) cx dL_texts_110 rfl hf (fun hf => ?_) (fun hf => ?_)
    · refine g_sub [] [] rfl ?_
      exact w_L_texts_157 cx en h1 hf
    · exact w_L_texts_113 cx en h1 hf
set_option maxHeartbeats 4000000 in
set_option maxRecDepth 100000 in
theorem w_L_texts_67 {l : Launch} {w : Wp} {L : Ly} {E : Cx} {X : Nat} {j1 : Int64} {R0 : Int32 × Mm} (cx : Ok w L E RL cL_texts 4 8) (en : EnB E R0) (h1 : LTramWires w L X) {M : Mm} (hf : b_L_texts_67 X M j1 = some R0) : G l w L E M [(0, .ref X), (1, .long j1)] 67 [] := by
  unfold b_L_texts_67 at hf
  refine g_aload_n (pc := 67) cx dL_texts_67 rfl 0 rfl ?_
  refine g_ldc2 (pc := 68) cx tj_L_110 dL_texts_68 ?_
  refine g_lconst (pc := 71) (v := 0) cx dL_texts_71 (by decide) ?_
  refine g_lconst (pc := 72) (v := 0) cx dL_texts_72 (by decide) ?_
  refine g_iconst (pc := 73) (v := 0) cx dL_texts_73 (by decide) ?_
  refine g_iconst (pc := 74) (v := 1) cx dL_texts_74 (by decide) ?_
  obtain ⟨q3, M1, hc2, hf⟩ := obn_some2 hf
  refine g_callSi (pc := 75) [.ref X, .long 25136, .long 0, .long 0, .int 0, .int 1] [] cx lk_L_104 (by decide) (c_L_isFault h1 hc2) dL_texts_75 (Nat.le_of_ble_eq_true rfl) ?_
  refine g_if_eq (pc := 78) (tgt := 97) cx dL_texts_78 rfl hf (fun hf => ?_) (fun hf => ?_)
  · refine g_sub [] [] rfl ?_
    exact w_L_texts_97 cx en h1 hf
  · exact w_L_texts_81 cx en h1 hf
set_option maxHeartbeats 4000000 in
set_option maxRecDepth 100000 in
theorem w_L_texts_53 {l : Launch} {w : Wp} {L : Ly} {E : Cx} {X : Nat} {j1 : Int64} {R0 : Int32 × Mm} (cx : Ok w L E RL cL_texts 4 8) (en : EnB E R0) (h1 : LTramWires w L X) {M : Mm} (hf : b_L_texts_53 X M j1 = some R0) : G l w L E M [(0, .ref X), (1, .long j1)] 53 [] := by
  unfold b_L_texts_53 at hf
  refine g_aload_n (pc := 53) cx dL_texts_53 rfl 0 rfl ?_
  refine g_ldc2 (pc := 54) cx tj_L_108 dL_texts_54 ?_
  refine g_lconst (pc := 57) (v := 0) cx dL_texts_57 (by decide) ?_
  refine g_lconst (pc := 58) (v := 0) cx dL_texts_58 (by decide) ?_
  refine g_iconst (pc := 59) (v := 0) cx dL_texts_59 (by decide) ?_
  refine g_iconst (pc := 60) (v := 2) cx dL_texts_60 (by decide) ?_
  obtain ⟨q3, M1, hc2, hf⟩ := obn_some2 hf
  refine g_callSi (pc := 61) [.ref X, .long 6437179, .long 0, .long 0, .int 0, .int 2] [] cx lk_L_104 (by decide) (c_L_isFault h1 hc2) dL_texts_61 (Nat.le_of_ble_eq_true rfl) ?_
  refine g_if_eq (pc := 64) (tgt := 97) cx dL_texts_64 rfl hf (fun hf => ?_) (fun hf => ?_)
  · refine g_sub [] [] rfl ?_
    exact w_L_texts_97 cx en h1 hf
  · exact w_L_texts_67 cx en h1 hf
set_option maxHeartbeats 4000000 in
set_option maxRecDepth 100000 in
theorem w_L_texts_30 {l : Launch} {w : Wp} {L : Ly} {E : Cx} {X : Nat} {R0 : Int32 × Mm} (cx : Ok w L E RL cL_texts 4 8) (en : EnB E R0) (h1 : LTramWires w L X) {M : Mm} (hf : b_L_texts_30 X M = some R0) : G l w L E M [] 30 [] := by
  unfold b_L_texts_30 at hf
  refine g_iconst (pc := 30) (v := 0) cx dL_texts_30 (by decide) ?_
  exact g_tret (pc := 31) cx en dL_texts_31 hf
set_option maxHeartbeats 4000000 in
set_option maxRecDepth 100000 in
theorem w_L_texts_20 {l : Launch} {w : Wp} {L : Ly} {E : Cx} {X : Nat} {R0 : Int32 × Mm} (cx : Ok w L E RL cL_texts 4 8) (en : EnB E R0) (h1 : LTramWires w L X) {M : Mm} (hf : b_L_texts_20 X M = some R0) : G l w L E M [(0, .ref X)] 20 [] := by
  unfold b_L_texts_20 at hf
  refine g_aload_n (pc := 20) cx dL_texts_20 rfl 0 rfl ?_
  refine g_bipush (pc := 21) (v := 14) cx dL_texts_21 (by decide) ?_
  obtain ⟨q3, M1, hc2, hf⟩ := obn_some2 hf
  refine g_callVi (pc := 23) [.int 14] [] cx lk_L_13 vw_X8 (LTramWires_o h1) (by decide) (c_X8_count h1 hc2) dL_texts_23 (Nat.le_of_ble_eq_true rfl) ?_
  refine g_iconst (pc := 26) (v := 5) cx dL_texts_26 (by decide) ?_
  refine g_icmp_eq (pc := 27) (tgt := 32) cx dL_texts_27 rfl hf (fun hf => ?_) (fun hf => ?_)
  · refine g_aload_n (pc := 32) cx dL_texts_32 rfl 0 rfl ?_
    obtain ⟨q6, M4, hc5, hf⟩ := obn_some2 hf
    refine g_callSj (pc := 33) [.ref X] [] cx lk_L_60 (by decide) (c_L_state h1 hc5) dL_texts_33 (Nat.le_of_ble_eq_true rfl) ?_
    refine g_lstore_n (pc := 36) cx [(1, .long q6), (0, .ref X)] dL_texts_36 rfl (by decide) rfl ?_
    refine g_aload_n (pc := 37) cx dL_texts_37 rfl 1 rfl ?_
    refine g_ldc2 (pc := 38) cx tj_L_102 dL_texts_38 ?_
    refine g_lconst (pc := 41) (v := 0) cx dL_texts_41 (by decide) ?_
    refine g_lconst (pc := 42) (v := 0) cx dL_texts_42 (by decide) ?_
    refine g_bipush (pc := 43) (v := (-4)) cx dL_texts_43 (by decide) ?_
    refine g_bipush (pc := 45) (v := (-4)) cx dL_texts_45 (by decide) ?_
    obtain ⟨q9, M7, hc8, hf⟩ := obn_some2 hf
    refine g_callSi (pc := 47) [.ref X, .long 6434875, .long 0, .long 0, .int (-4), .int (-4)] [] cx lk_L_104 (by decide) (c_L_isFault h1 hc8) dL_texts_47 (Nat.le_of_ble_eq_true rfl) ?_
    refine g_if_eq (pc := 50) (tgt := 97) cx dL_texts_50 rfl hf (fun hf => ?_) (fun hf => ?_)
    · refine g_sub [] [] rfl ?_
      exact w_L_texts_97 cx en h1 hf
    · refine g_sub [1, 0] [(0, .ref X), (1, .long q6)] rfl ?_
      exact w_L_texts_53 cx en h1 hf
  · refine g_sub [] [] rfl ?_
    exact w_L_texts_30 cx en h1 hf
set_option maxHeartbeats 4000000 in
set_option maxRecDepth 100000 in
theorem w_L_texts_13 {l : Launch} {w : Wp} {L : Ly} {E : Cx} {X : Nat} {R0 : Int32 × Mm} (cx : Ok w L E RL cL_texts 4 8) (en : EnB E R0) (h1 : LTramWires w L X) {M : Mm} (hf : b_L_texts_13 X M = some R0) : G l w L E M [(0, .ref X)] 13 [] := by
  unfold b_L_texts_13 at hf
  refine g_aload_n (pc := 13) cx dL_texts_13 rfl 0 rfl ?_
  obtain ⟨q3, M1, hc2, hf⟩ := obn_some2 hf
  refine g_callVi (pc := 14) [] [] cx lk_L_99 vw_X8 (LTramWires_o h1) (by decide) (c_X8_play h1 hc2) dL_texts_14 (Nat.le_of_ble_eq_true rfl) ?_
  refine g_if_ne (pc := 17) (tgt := 30) cx dL_texts_17 rfl hf (fun hf => ?_) (fun hf => ?_)
  · exact w_L_texts_20 cx en h1 hf
  · refine g_sub [] [] rfl ?_
    exact w_L_texts_30 cx en h1 hf
set_option maxHeartbeats 4000000 in
set_option maxRecDepth 100000 in
theorem c_L_texts_3 {l : Launch} {w : Wp} {L : Ly} {E : Cx} {X : Nat} {R0 : Int32 × Mm} (cx : Ok w L E RL cL_texts 4 8) (en : EnB E R0) (h1 : LTramWires w L X) {M : Mm} (hf : f_L_texts_3 X M  = some R0) : G l w L E M [] 3 [.ref X] := by
  unfold f_L_texts_3 at hf
  refine g_astore_n (pc := 3) cx [(0, .ref X)] dL_texts_3 rfl (by decide) rfl ?_
  refine g_aload_n (pc := 4) cx dL_texts_4 rfl 0 rfl ?_
  refine g_iconst (pc := 5) (v := 0) cx dL_texts_5 (by decide) ?_
  obtain ⟨q3, M1, hc2, hf⟩ := obn_some2 hf
  refine g_callVi (pc := 6) [.int 0] [] cx lk_L_13 vw_X8 (LTramWires_o h1) (by decide) (c_X8_count h1 hc2) dL_texts_6 (Nat.le_of_ble_eq_true rfl) ?_
  refine g_iconst (pc := 9) (v := 3) cx dL_texts_9 (by decide) ?_
  refine g_icmp_ne (pc := 10) (tgt := 30) cx dL_texts_10 rfl hf (fun hf => ?_) (fun hf => ?_)
  · exact w_L_texts_13 cx en h1 hf
  · refine g_sub [] [] rfl ?_
    exact w_L_texts_30 cx en h1 hf
