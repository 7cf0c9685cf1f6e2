/-! L_known_3 -/
def b_L_known_835 (X : Nat) (M : Mm) : OR := some (0, M)
def b_L_known_825 (X : Nat) (rc809 : Mm → Int32 → OR) (M : Mm) (x1 : Int32) : OR := obn (f_X8_step X M 3 0) fun q3 M1 => (if q3 = 2 then rc809 M1 (x1 + 1) else b_L_known_835 X M1)
def b_L_known_815 (X : Nat) (rc809 : Mm → Int32 → OR) (M : Mm) (x1 : Int32) : OR := obn (f_X8_step X M 2 0) fun q3 M1 => (if q3 = 1 then b_L_known_825 X rc809 M1 x1 else b_L_known_835 X M1)
def b_L_known_928 (X : Nat) (M : Mm) (s0 : Int32) : OR := some (s0, M)
def b_L_known_927 (X : Nat) (M : Mm) : OR := b_L_known_928 X M 0
def b_L_known_913 (X : Nat) (M : Mm) : OR := obn (f_X8_sectionOf X M 0 3) fun q3 M1 => (if q3 = 1 then b_L_known_928 X M1 1 else b_L_known_927 X M1)
def b_L_known_904 (X : Nat) (M : Mm) : OR := obn (f_X8_sectionOf X M 2 3) fun q3 M1 => (if q3 = 0 then b_L_known_913 X M1 else b_L_known_927 X M1)
def b_L_known_895 (X : Nat) (M : Mm) : OR := obn (f_X8_isolatorOf X M 1 3) fun q3 M1 => (if q3 = 0 then b_L_known_904 X M1 else b_L_known_927 X M1)
def b_L_known_886 (X : Nat) (M : Mm) : OR := obn (f_X8_isolatorOf X M 1 2) fun q3 M1 => (if q3 = 0 then b_L_known_895 X M1 else b_L_known_927 X M1)
def b_L_known_876 (X : Nat) (M : Mm) : OR := obn (f_X8_log X M 23 1) fun q3 M1 => (if q3 = 0 then b_L_known_886 X M1 else b_L_known_927 X M1)
def b_L_known_865 (X : Nat) (M : Mm) : OR := obn (f_X8_log X M 23 0) fun q3 M1 => (if q3 = 2 then b_L_known_876 X M1 else b_L_known_927 X M1)
def b_L_known_854 (X : Nat) (M : Mm) : OR := obn (f_X8_count X M 9) fun q3 M1 => (if q3 = 33 then b_L_known_865 X M1 else b_L_known_927 X M1)
def l_L_known_809 (X : Nat) : Nat → Mm → Int32 → OR
  | 0, _, _ => none
  | k + 1, M, x1 => if x1 < 12 then b_L_known_815 X (l_L_known_809 X k) M x1 else obn (f_X8_count X M 10) fun q3 M1 => (if q3 = 24 then b_L_known_854 X M1 else b_L_known_927 X M1)
def b_L_known_805 (X : Nat) (M : Mm) : OR := some (0, M)
def b_L_known_795 (X : Nat) (M : Mm) : OR := obn (f_X8_step X M 0 1) fun q3 M1 => (if q3 = 2 then l_L_known_809 X FU M1 0 else b_L_known_805 X M1)
def b_L_known_784 (X : Nat) (M : Mm) : OR := obn (f_X8_pool X M 40) fun q3 M1 => (if q3 = 35 then b_L_known_795 X M1 else b_L_known_805 X M1)
def b_L_known_774 (X : Nat) (M : Mm) : OR := obn (f_X8_step X M 2 1) fun q3 M1 => (if q3 = 2 then b_L_known_784 X M1 else b_L_known_805 X M1)
def b_L_known_762 (X : Nat) (M : Mm) : OR := some (0, M)
def b_L_known_751 (X : Nat) (M : Mm) : OR := obn (f_X8_count X M 9) fun q3 M1 => (if q3 = 6 then obn (f_X8_step X M1 0 2) fun q6 M4 => (if q6 = 3 then b_L_known_774 X M4 else b_L_known_805 X M4) else b_L_known_762 X M1)
def b_L_known_742 (X : Nat) (M : Mm) : OR := obn (f_X8_log X M 5 2) fun q3 M1 => (if q3 = 0 then b_L_known_751 X M1 else b_L_known_762 X M1)
def b_L_known_730 (X : Nat) (M : Mm) : OR := obn (f_X8_log X M 0 2) fun q3 M1 => (if q3 = 130 then b_L_known_742 X M1 else b_L_known_762 X M1)
def b_L_known_720 (X : Nat) (M : Mm) : OR := obn (f_X8_count X M 3) fun q3 M1 => (if q3 = 9 then b_L_known_730 X M1 else b_L_known_762 X M1)
def b_L_known_709 (X : Nat) (M : Mm) : OR := obn (f_X8_refusal X M 1 2) fun q3 M1 => (if q3 = 21 then b_L_known_720 X M1 else b_L_known_762 X M1)
def b_L_known_699 (X : Nat) (M : Mm) : OR := obn (f_X8_step X M 1 2) fun q3 M1 => (if q3 = 3 then b_L_known_709 X M1 else b_L_known_762 X M1)
def b_L_known_688 (X : Nat) (M : Mm) : OR := obn (f_X8_refusal X M 3 1) fun q3 M1 => (if q3 = 41 then b_L_known_699 X M1 else b_L_known_762 X M1)
def b_L_known_678 (X : Nat) (M : Mm) : OR := obn (f_X8_step X M 3 1) fun q3 M1 => (if q3 = 3 then b_L_known_688 X M1 else b_L_known_762 X M1)
def b_L_known_668 (X : Nat) (M : Mm) : OR := obn (f_X8_fetch X M 2) fun q3 M1 => (if q3 = (-2) then b_L_known_678 X M1 else b_L_known_762 X M1)
def b_L_known_659 (X : Nat) (M : Mm) : OR := obn (f_X8_fetch X M 2) fun q3 M1 => (if q3 = 2 then b_L_known_668 X M1 else b_L_known_762 X M1)
def b_L_known_647 (X : Nat) (M : Mm) : OR := obn (f_X8_refusal X M 7 2) fun q3 M1 => (if q3 = 81 then b_L_known_659 X M1 else b_L_known_762 X M1)
def b_L_known_636 (X : Nat) (M : Mm) : OR := obn (f_X8_isolator X M 1 2) fun q3 M1 => (if q3 = (-2) then b_L_known_647 X M1 else b_L_known_762 X M1)
def b_L_known_625 (X : Nat) (M : Mm) : OR := obn (f_X8_refusal X M 3 1) fun q3 M1 => (if q3 = 43 then b_L_known_636 X M1 else b_L_known_762 X M1)
def b_L_known_614 (X : Nat) (M : Mm) : OR := obn (f_X8_step X M 7 2) fun q3 M1 => (if q3 = 2 then b_L_known_625 X M1 else b_L_known_762 X M1)
def b_L_known_602 (X : Nat) (M : Mm) : OR := obn (f_X8_sectionOf X M 2 10) fun q3 M1 => (if q3 = (-4) then b_L_known_614 X M1 else b_L_known_762 X M1)
def b_L_known_591 (X : Nat) (M : Mm) : OR := obn (f_X8_sectionOf X M 2 7) fun q3 M1 => (if q3 = 2 then b_L_known_602 X M1 else b_L_known_762 X M1)
def b_L_known_582 (X : Nat) (M : Mm) : OR := obn (f_X8_count X M 12) fun q3 M1 => (if q3 = 0 then b_L_known_591 X M1 else b_L_known_762 X M1)
def b_L_known_571 (X : Nat) (M : Mm) : OR := obn (f_X8_count X M 11) fun q3 M1 => (if q3 = 30 then b_L_known_582 X M1 else b_L_known_762 X M1)
def b_L_known_560 (X : Nat) (M : Mm) : OR := obn (f_X8_leave X M 2 1) fun q3 M1 => (if q3 = 30 then b_L_known_571 X M1 else b_L_known_762 X M1)
def b_L_known_549 (X : Nat) (M : Mm) : OR := obn (f_X8_leave X M 2 4) fun q3 M1 => (if q3 = (-2) then b_L_known_560 X M1 else b_L_known_762 X M1)
def b_L_known_539 (X : Nat) (M : Mm) : OR := obn (f_X8_count X M 12) fun q3 M1 => (if q3 = 1 then b_L_known_549 X M1 else b_L_known_762 X M1)
def b_L_known_524 (X : Nat) (M : Mm) : OR := some (0, M)
def b_L_known_515 (X : Nat) (M : Mm) : OR := obn (f_X8_count X M 12) fun q3 M1 => (if q3 = 0 then obn (f_X8_pass X M1 130) fun q6 M4 => (if q6 = 130 then b_L_known_539 X M4 else b_L_known_762 X M4) else b_L_known_524 X M1)
def b_L_known_503 (X : Nat) (M : Mm) : OR := obn (f_X8_refusal X M 7 2) fun q3 M1 => (if q3 = 82 then b_L_known_515 X M1 else b_L_known_524 X M1)
def b_L_known_491 (X : Nat) (M : Mm) : OR := obn (f_X8_sectionOf X M 2 10) fun q3 M1 => (if q3 = 100 then b_L_known_503 X M1 else b_L_known_524 X M1)
def b_L_known_478 (X : Nat) (M : Mm) : OR := obn (f_X8_enter X M 2 3 100) fun q3 M1 => (if q3 = (-2) then b_L_known_491 X M1 else b_L_known_524 X M1)
def b_L_known_466 (X : Nat) (M : Mm) : OR := obn (f_X8_enter X M 2 3 100) fun q3 M1 => (if q3 = 1 then b_L_known_478 X M1 else b_L_known_524 X M1)
def b_L_known_455 (X : Nat) (M : Mm) : OR := obn (f_X8_isolator X M 0 2) fun q3 M1 => (if q3 = (-2) then b_L_known_466 X M1 else b_L_known_524 X M1)
def b_L_known_444 (X : Nat) (M : Mm) : OR := obn (f_X8_refusal X M 3 1) fun q3 M1 => (if q3 = 42 then b_L_known_455 X M1 else b_L_known_524 X M1)
def b_L_known_433 (X : Nat) (M : Mm) : OR := obn (f_X8_step X M 6 2) fun q3 M1 => (if q3 = 2 then b_L_known_444 X M1 else b_L_known_524 X M1)
def b_L_known_420 (X : Nat) (M : Mm) : OR := obn (f_X8_enter X M 2 3 100) fun q3 M1 => (if q3 = (-2) then b_L_known_433 X M1 else b_L_known_524 X M1)
def b_L_known_410 (X : Nat) (M : Mm) : OR := obn (f_X8_refusal X M 6 2) fun q3 M1 => (if q3 = 0 then b_L_known_420 X M1 else b_L_known_524 X M1)
def b_L_known_399 (X : Nat) (M : Mm) : OR := obn (f_X8_refusal X M 1 2) fun q3 M1 => (if q3 = 22 then b_L_known_410 X M1 else b_L_known_524 X M1)
def b_L_known_389 (X : Nat) (M : Mm) : OR := obn (f_X8_isolatorOf X M 1 5) fun q3 M1 => (if q3 = 1 then b_L_known_399 X M1 else b_L_known_524 X M1)
def b_L_known_380 (X : Nat) (M : Mm) : OR := obn (f_X8_isolatorOf X M 1 3) fun q3 M1 => (if q3 = 0 then b_L_known_389 X M1 else b_L_known_524 X M1)
def b_L_known_371 (X : Nat) (M : Mm) : OR := obn (f_X8_sectionOf X M 2 3) fun q3 M1 => (if q3 = 0 then b_L_known_380 X M1 else b_L_known_524 X M1)
def b_L_known_362 (X : Nat) (M : Mm) : OR := obn (f_X8_sectionOf X M 2 2) fun q3 M1 => (if q3 = 0 then b_L_known_371 X M1 else b_L_known_524 X M1)
def b_L_known_352 (X : Nat) (M : Mm) : OR := obn (f_X8_step X M 2 1) fun q3 M1 => (if q3 = 2 then b_L_known_362 X M1 else b_L_known_524 X M1)
def b_L_known_341 (X : Nat) (M : Mm) : OR := obn (f_X8_refusal X M 0 2) fun q3 M1 => (if q3 = 11 then b_L_known_352 X M1 else b_L_known_524 X M1)
def b_L_known_330 (X : Nat) (M : Mm) : OR := obn (f_X8_refusal X M 0 1) fun q3 M1 => (if q3 = 12 then b_L_known_341 X M1 else b_L_known_524 X M1)
def b_L_known_320 (X : Nat) (M : Mm) : OR := obn (f_X8_pool X M 9) fun q3 M1 => (if q3 = 4 then b_L_known_330 X M1 else b_L_known_524 X M1)
def b_L_known_310 (X : Nat) (M : Mm) : OR := obn (f_X8_pool X M 4) fun q3 M1 => (if q3 = (-2) then b_L_known_320 X M1 else b_L_known_524 X M1)
def b_L_known_300 (X : Nat) (M : Mm) : OR := obn (f_X8_count X M 3) fun q3 M1 => (if q3 = 7 then b_L_known_310 X M1 else b_L_known_524 X M1)
def b_L_known_288 (X : Nat) (M : Mm) : OR := some (0, M)
def b_L_known_277 (X : Nat) (M : Mm) : OR := obn (f_X8_step X M 2 1) fun q3 M1 => (if q3 = (-2) then obn (f_X8_step X M1 0 2) fun q6 M4 => (if q6 = 3 then b_L_known_300 X M4 else b_L_known_524 X M4) else b_L_known_288 X M1)
def b_L_known_265 (X : Nat) (M : Mm) : OR := obn (f_X8_refusal X M 6 2) fun q3 M1 => (if q3 = 72 then b_L_known_277 X M1 else b_L_known_288 X M1)
def b_L_known_254 (X : Nat) (M : Mm) : OR := obn (f_X8_refusal X M 4 0) fun q3 M1 => (if q3 = 52 then b_L_known_265 X M1 else b_L_known_288 X M1)
def b_L_known_243 (X : Nat) (M : Mm) : OR := obn (f_X8_refusal X M 2 1) fun q3 M1 => (if q3 = 32 then b_L_known_254 X M1 else b_L_known_288 X M1)
def b_L_known_234 (X : Nat) (M : Mm) : OR := obn (f_X8_canPlan X M 1) fun q3 M1 => (if q3 = 1 then b_L_known_243 X M1 else b_L_known_288 X M1)
def b_L_known_225 (X : Nat) (M : Mm) : OR := obn (f_X8_canPlan X M 0) fun q3 M1 => (if q3 = 1 then b_L_known_234 X M1 else b_L_known_288 X M1)
def b_L_known_213 (X : Nat) (M : Mm) : OR := obn (f_X8_plan X M 0 3) fun q3 M1 => (if q3 = 600 then b_L_known_225 X M1 else b_L_known_288 X M1)
def b_L_known_201 (X : Nat) (M : Mm) : OR := obn (f_X8_plan X M 0 2) fun q3 M1 => (if q3 = 200 then b_L_known_213 X M1 else b_L_known_288 X M1)
def b_L_known_189 (X : Nat) (M : Mm) : OR := obn (f_X8_plan X M 0 1) fun q3 M1 => (if q3 = 400 then b_L_known_201 X M1 else b_L_known_288 X M1)
def b_L_known_180 (X : Nat) (M : Mm) : OR := obn (f_X8_canPlan X M 2) fun q3 M1 => (if q3 = 3 then b_L_known_189 X M1 else b_L_known_288 X M1)
def b_L_known_169 (X : Nat) (M : Mm) : OR := obn (f_X8_plan X M 2 3) fun q3 M1 => (if q3 = (-4) then b_L_known_180 X M1 else b_L_known_288 X M1)
def b_L_known_157 (X : Nat) (M : Mm) : OR := obn (f_X8_plan X M 2 2) fun q3 M1 => (if q3 = 602 then b_L_known_169 X M1 else b_L_known_288 X M1)
def b_L_known_145 (X : Nat) (M : Mm) : OR := obn (f_X8_plan X M 2 1) fun q3 M1 => (if q3 = 201 then b_L_known_157 X M1 else b_L_known_288 X M1)
def b_L_known_133 (X : Nat) (M : Mm) : OR := some (0, M)
def b_L_known_124 (X : Nat) (M : Mm) : OR := obn (f_X8_isolatorOf X M 1 5) fun q3 M1 => (if q3 = 0 then obn (f_X8_plan X M1 2 0) fun q6 M4 => (if q6 = 2 then b_L_known_145 X M4 else b_L_known_288 X M4) else b_L_known_133 X M1)
def b_L_known_114 (X : Nat) (M : Mm) : OR := obn (f_X8_isolatorOf X M 1 4) fun q3 M1 => (if q3 = 1 then b_L_known_124 X M1 else b_L_known_133 X M1)
def b_L_known_104 (X : Nat) (M : Mm) : OR := obn (f_X8_isolatorOf X M 0 4) fun q3 M1 => (if q3 = 2 then b_L_known_114 X M1 else b_L_known_133 X M1)
def b_L_known_95 (X : Nat) (M : Mm) : OR := obn (f_X8_sectionOf X M 1 1) fun q3 M1 => (if q3 = 0 then b_L_known_104 X M1 else b_L_known_133 X M1)
def b_L_known_85 (X : Nat) (M : Mm) : OR := obn (f_X8_sectionOf X M 0 1) fun q3 M1 => (if q3 = 2 then b_L_known_95 X M1 else b_L_known_133 X M1)
def b_L_known_74 (X : Nat) (M : Mm) : OR := obn (f_X8_sectionOf X M 1 9) fun q3 M1 => (if q3 = 2 then b_L_known_85 X M1 else b_L_known_133 X M1)
def b_L_known_63 (X : Nat) (M : Mm) : OR := obn (f_X8_sectionOf X M 2 8) fun q3 M1 => (if q3 = 3 then b_L_known_74 X M1 else b_L_known_133 X M1)
def b_L_known_53 (X : Nat) (M : Mm) : OR := obn (f_X8_sectionOf X M 2 3) fun q3 M1 => (if q3 = 1 then b_L_known_63 X M1 else b_L_known_133 X M1)
def b_L_known_43 (X : Nat) (M : Mm) : OR := obn (f_X8_sectionOf X M 2 2) fun q3 M1 => (if q3 = 1 then b_L_known_53 X M1 else b_L_known_133 X M1)
def b_L_known_33 (X : Nat) (M : Mm) : OR := obn (f_X8_count X M 13) fun q3 M1 => (if q3 = 1 then b_L_known_43 X M1 else b_L_known_133 X M1)
def b_L_known_24 (X : Nat) (M : Mm) : OR := obn (f_X8_count X M 4) fun q3 M1 => (if q3 = 3 then b_L_known_33 X M1 else b_L_known_133 X M1)
def b_L_known_14 (X : Nat) (M : Mm) : OR := obn (f_X8_count X M 3) fun q3 M1 => (if q3 = 12 then b_L_known_24 X M1 else b_L_known_133 X M1)
def f_L_known_3 (X : Nat) (M : Mm) : OR := obn (f_X8_count X M 2) fun q3 M1 => (if q3 = 12 then b_L_known_14 X M1 else b_L_known_133 X M1)
set_option maxHeartbeats 4000000 in
set_option maxRecDepth 100000 in
theorem w_L_known_835 {l : Launch} {w : Wp} {L : Ly} {E : Cx} {X : Nat} {R0 : Int32 × Mm} (cx : Ok w L E RL cL_known 2 8) (en : EnB E R0) (h1 : LTramWires w L X) {M : Mm} (hf : b_L_known_835 X M = some R0) : G l w L E M [] 835 [] := by
  unfold b_L_known_835 at hf
  refine g_iconst (pc := 835) (v := 0) cx dL_known_835 (by decide) ?_
  exact g_tret (pc := 836) cx en dL_known_836 hf
set_option maxHeartbeats 4000000 in
set_option maxRecDepth 100000 in
theorem w_L_known_825 {l : Launch} {w : Wp} {L : Ly} {E : Cx} {X : Nat} {rc809 : Mm → Int32 → OR} {x1 : Int32} {R0 : Int32 × Mm} (cx : Ok w L E RL cL_known 2 8) (en : EnB E R0) (h1 : LTramWires w L X) (hrc809 : ∀ (M : Mm) (x1 : Int32), rc809 M x1 = some R0 → G l w L E M [(0, .ref X), (1, .int x1)] 809 []) {M : Mm} (hf : b_L_known_825 X rc809 M x1 = some R0) : G l w L E M [(0, .ref X), (1, .int x1)] 825 [] := by
  unfold b_L_known_825 at hf
  refine g_aload_n (pc := 825) cx dL_known_825 rfl 0 rfl ?_
  refine g_iconst (pc := 826) (v := 3) cx dL_known_826 (by decide) ?_
  refine g_iconst (pc := 827) (v := 0) cx dL_known_827 (by decide) ?_
  obtain ⟨q3, M1, hc2, hf⟩ := obn_some2 hf
  refine g_callVi (pc := 828) [.int 3, .int 0] [] cx lk_L_57 vw_X8 (LTramWires_o h1) (by decide) (c_X8_step h1 hc2) dL_known_828 (Nat.le_of_ble_eq_true rfl) ?_
  refine g_iconst (pc := 831) (v := 2) cx dL_known_831 (by decide) ?_
  refine g_icmp_eq (pc := 832) (tgt := 837) cx dL_known_832 rfl hf (fun hf => ?_) (fun hf => ?_)
  · refine g_iinc (pc := 837) cx [(1, .int (x1 + 1)), (0, .ref X)] dL_known_837 1 rfl rfl (by decide) rfl ?_
    refine g_goto (pc := 840) (tgt := 809) cx dL_known_840 rfl ?_
    refine g_sub [1, 0] [(0, .ref X), (1, .int (x1 + 1))] rfl ?_
    exact hrc809 _ _ hf
  · refine g_sub [] [] rfl ?_
    exact w_L_known_835 cx en h1 hf
set_option maxHeartbeats 4000000 in
set_option maxRecDepth 100000 in
theorem w_L_known_815 {l : Launch} {w : Wp} {L : Ly} {E : Cx} {X : Nat} {rc809 : Mm → Int32 → OR} {x1 : Int32} {R0 : Int32 × Mm} (cx : Ok w L E RL cL_known 2 8) (en : EnB E R0) (h1 : LTramWires w L X) (hrc809 : ∀ (M : Mm) (x1 : Int32), rc809 M x1 = some R0 → G l w L E M [(0, .ref X), (1, .int x1)] 809 []) {M : Mm} (hf : b_L_known_815 X rc809 M x1 = some R0) : G l w L E M [(0, .ref X), (1, .int x1)] 815 [] := by
  unfold b_L_known_815 at hf
  refine g_aload_n (pc := 815) cx dL_known_815 rfl 0 rfl ?_
  refine g_iconst (pc := 816) (v := 2) cx dL_known_816 (by decide) ?_
  refine g_iconst (pc := 817) (v := 0) cx dL_known_817 (by decide) ?_
  obtain ⟨q3, M1, hc2, hf⟩ := obn_some2 hf
  refine g_callVi (pc := 818) [.int 2, .int 0] [] cx lk_L_57 vw_X8 (LTramWires_o h1) (by decide) (c_X8_step h1 hc2) dL_known_818 (Nat.le_of_ble_eq_true rfl) ?_
  refine g_iconst (pc := 821) (v := 1) cx dL_known_821 (by decide) ?_
  refine g_icmp_ne (pc := 822) (tgt := 835) cx dL_known_822 rfl hf (fun hf => ?_) (fun hf => ?_)
  · exact w_L_known_825 cx en h1 hrc809 hf
  · refine g_sub [] [] rfl ?_
    exact w_L_known_835 cx en h1 hf
set_option maxHeartbeats 4000000 in
set_option maxRecDepth 100000 in
theorem w_L_known_928 {l : Launch} {w : Wp} {L : Ly} {E : Cx} {X : Nat} {s0 : Int32} {R0 : Int32 × Mm} (cx : Ok w L E RL cL_known 2 8) (en : EnB E R0) (h1 : LTramWires w L X) {M : Mm} (hf : b_L_known_928 X M s0 = some R0) : G l w L E M [] 928 [.int s0] := by
  unfold b_L_known_928 at hf
  exact g_tret (pc := 928) cx en dL_known_928 hf
set_option maxHeartbeats 4000000 in
set_option maxRecDepth 100000 in
theorem w_L_known_927 {l : Launch} {w : Wp} {L : Ly} {E : Cx} {X : Nat} {R0 : Int32 × Mm} (cx : Ok w L E RL cL_known 2 8) (en : EnB E R0) (h1 : LTramWires w L X) {M : Mm} (hf : b_L_known_927 X M = some R0) : G l w L E M [] 927 [] := by
  unfold b_L_known_927 at hf
  refine g_iconst (pc := 927) (v := 0) cx dL_known_927 (by decide) ?_
  exact w_L_known_928 cx en h1 hf
set_option maxHeartbeats 4000000 in
set_option maxRecDepth 100000 in
theorem w_L_known_913 {l : Launch} {w : Wp} {L : Ly} {E : Cx} {X : Nat} {R0 : Int32 × Mm} (cx : Ok w L E RL cL_known 2 8) (en : EnB E R0) (h1 : LTramWires w L X) {M : Mm} (hf : b_L_known_913 X M = some R0) : G l w L E M [(0, .ref X)] 913 [] := by
  unfold b_L_known_913 at hf
  refine g_aload_n (pc := 913) cx dL_known_913 rfl 0 rfl ?_
  refine g_iconst (pc := 914) (v := 0) cx dL_known_914 (by decide) ?_
  refine g_iconst (pc := 915) (v := 3) cx dL_known_915 (by decide) ?_
  obtain ⟨q3, M1, hc2, hf⟩ := obn_some2 hf
  refine g_callVi (pc := 916) [.int 0, .int 3] [] cx lk_L_25 vw_X8 (LTramWires_o h1) (by decide) (c_X8_sectionOf h1 hc2) dL_known_916 (Nat.le_of_ble_eq_true rfl) ?_
  refine g_iconst (pc := 919) (v := 1) cx dL_known_919 (by decide) ?_
  refine g_icmp_ne (pc := 920) (tgt := 927) cx dL_known_920 rfl hf (fun hf => ?_) (fun hf => ?_)
  · refine g_iconst (pc := 923) (v := 1) cx dL_known_923 (by decide) ?_
    refine g_goto (pc := 924) (tgt := 928) cx dL_known_924 rfl ?_
    refine g_sub [] [] rfl ?_
    exact w_L_known_928 cx en h1 hf
  · refine g_sub [] [] rfl ?_
    exact w_L_known_927 cx en h1 hf
set_option maxHeartbeats 4000000 in
set_option maxRecDepth 100000 in
theorem w_L_known_904 {l : Launch} {w : Wp} {L : Ly} {E : Cx} {X : Nat} {R0 : Int32 × Mm} (cx : Ok w L E RL cL_known 2 8) (en : EnB E R0) (h1 : LTramWires w L X) {M : Mm} (hf : b_L_known_904 X M = some R0) : G l w L E M [(0, .ref X)] 904 [] := by
  unfold b_L_known_904 at hf
  refine g_aload_n (pc := 904) cx dL_known_904 rfl 0 rfl ?_
  refine g_iconst (pc := 905) (v := 2) cx dL_known_905 (by decide) ?_
  refine g_iconst (pc := 906) (v := 3) cx dL_known_906 (by decide) ?_
  obtain ⟨q3, M1, hc2, hf⟩ := obn_some2 hf
  refine g_callVi (pc := 907) [.int 2, .int 3] [] cx lk_L_25 vw_X8 (LTramWires_o h1) (by decide) (c_X8_sectionOf h1 hc2) dL_known_907 (Nat.le_of_ble_eq_true rfl) ?_
  refine g_if_ne (pc := 910) (tgt := 927) cx dL_known_910 rfl hf (fun hf => ?_) (fun hf => ?_)
  · exact w_L_known_913 cx en h1 hf
  · refine g_sub [] [] rfl ?_
    exact w_L_known_927 cx en h1 hf
set_option maxHeartbeats 4000000 in
set_option maxRecDepth 100000 in
theorem w_L_known_895 {l : Launch} {w : Wp} {L : Ly} {E : Cx} {X : Nat} {R0 : Int32 × Mm} (cx : Ok w L E RL cL_known 2 8) (en : EnB E R0) (h1 : LTramWires w L X) {M : Mm} (hf : b_L_known_895 X M = some R0) : G l w L E M [(0, .ref X)] 895 [] := by
  unfold b_L_known_895 at hf
  refine g_aload_n (pc := 895) cx dL_known_895 rfl 0 rfl ?_
  refine g_iconst (pc := 896) (v := 1) cx dL_known_896 (by decide) ?_
  refine g_iconst (pc := 897) (v := 3) cx dL_known_897 (by decide) ?_
  obtain ⟨q3, M1, hc2, hf⟩ := obn_some2 hf
  refine g_callVi (pc := 898) [.int 1, .int 3] [] cx lk_L_29 vw_X8 (LTramWires_o h1) (by decide) (c_X8_isolatorOf h1 hc2) dL_known_898 (Nat.le_of_ble_eq_true rfl) ?_
  refine g_if_ne (pc := 901) (tgt := 927) cx dL_known_901 rfl hf (fun hf => ?_) (fun hf => ?_)
  · exact w_L_known_904 cx en h1 hf
  · refine g_sub [] [] rfl ?_
    exact w_L_known_927 cx en h1 hf
set_option maxHeartbeats 4000000 in
set_option maxRecDepth 100000 in
theorem w_L_known_886 {l : Launch} {w : Wp} {L : Ly} {E : Cx} {X : Nat} {R0 : Int32 × Mm} (cx : Ok w L E RL cL_known 2 8) (en : EnB E R0) (h1 : LTramWires w L X) {M : Mm} (hf : b_L_known_886 X M = some R0) : G l w L E M [(0, .ref X)] 886 [] := by
  unfold b_L_known_886 at hf
  refine g_aload_n (pc := 886) cx dL_known_886 rfl 0 rfl ?_
  refine g_iconst (pc := 887) (v := 1) cx dL_known_887 (by decide) ?_
  refine g_iconst (pc := 888) (v := 2) cx dL_known_888 (by decide) ?_
  obtain ⟨q3, M1, hc2, hf⟩ := obn_some2 hf
  refine g_callVi (pc := 889) [.int 1, .int 2] [] cx lk_L_29 vw_X8 (LTramWires_o h1) (by decide) (c_X8_isolatorOf h1 hc2) dL_known_889 (Nat.le_of_ble_eq_true rfl) ?_
  refine g_if_ne (pc := 892) (tgt := 927) cx dL_known_892 rfl hf (fun hf => ?_) (fun hf => ?_)
  · exact w_L_known_895 cx en h1 hf
  · refine g_sub [] [] rfl ?_
    exact w_L_known_927 cx en h1 hf
set_option maxHeartbeats 4000000 in
set_option maxRecDepth 100000 in
theorem w_L_known_876 {l : Launch} {w : Wp} {L : Ly} {E : Cx} {X : Nat} {R0 : Int32 × Mm} (cx : Ok w L E RL cL_known 2 8) (en : EnB E R0) (h1 : LTramWires w L X) {M : Mm} (hf : b_L_known_876 X M = some R0) : G l w L E M [(0, .ref X)] 876 [] := by
  unfold b_L_known_876 at hf
  refine g_aload_n (pc := 876) cx dL_known_876 rfl 0 rfl ?_
  refine g_bipush (pc := 877) (v := 23) cx dL_known_877 (by decide) ?_
  refine g_iconst (pc := 879) (v := 1) cx dL_known_879 (by decide) ?_
  obtain ⟨q3, M1, hc2, hf⟩ := obn_some2 hf
  refine g_callVi (pc := 880) [.int 23, .int 1] [] cx lk_L_32 vw_X8 (LTramWires_o h1) (by decide) (c_X8_log h1 hc2) dL_known_880 (Nat.le_of_ble_eq_true rfl) ?_
  refine g_if_ne (pc := 883) (tgt := 927) cx dL_known_883 rfl hf (fun hf => ?_) (fun hf => ?_)
  · exact w_L_known_886 cx en h1 hf
  · refine g_sub [] [] rfl ?_
    exact w_L_known_927 cx en h1 hf
set_option maxHeartbeats 4000000 in
set_option maxRecDepth 100000 in
theorem w_L_known_865 {l : Launch} {w : Wp} {L : Ly} {E : Cx} {X : Nat} {R0 : Int32 × Mm} (cx : Ok w L E RL cL_known 2 8) (en : EnB E R0) (h1 : LTramWires w L X) {M : Mm} (hf : b_L_known_865 X M = some R0) : G l w L E M [(0, .ref X)] 865 [] := by
  unfold b_L_known_865 at hf
  refine g_aload_n (pc := 865) cx dL_known_865 rfl 0 rfl ?_
  refine g_bipush (pc := 866) (v := 23) cx dL_known_866 (by decide) ?_
  refine g_iconst (pc := 868) (v := 0) cx dL_known_868 (by decide) ?_
  obtain ⟨q3, M1, hc2, hf⟩ := obn_some2 hf
  refine g_callVi (pc := 869) [.int 23, .int 0] [] cx lk_L_32 vw_X8 (LTramWires_o h1) (by decide) (c_X8_log h1 hc2) dL_known_869 (Nat.le_of_ble_eq_true rfl) ?_
  refine g_iconst (pc := 872) (v := 2) cx dL_known_872 (by decide) ?_
  refine g_icmp_ne (pc := 873) (tgt := 927) cx dL_known_873 rfl hf (fun hf => ?_) (fun hf => ?_)
  · exact w_L_known_876 cx en h1 hf
  · refine g_sub [] [] rfl ?_
    exact w_L_known_927 cx en h1 hf
set_option maxHeartbeats 4000000 in
set_option maxRecDepth 100000 in
theorem w_L_known_854 {l : Launch} {w : Wp} {L : Ly} {E : Cx} {X : Nat} {R0 : Int32 × Mm} (cx : Ok w L E RL cL_known 2 8) (en : EnB E R0) (h1 : LTramWires w L X) {M : Mm} (hf : b_L_known_854 X M = some R0) : G l w L E M [(0, .ref X)] 854 [] := by
  unfold b_L_known_854 at hf
  refine g_aload_n (pc := 854) cx dL_known_854 rfl 0 rfl ?_
  refine g_bipush (pc := 855) (v := 9) cx dL_known_855 (by decide) ?_
  obtain ⟨q3, M1, hc2, hf⟩ := obn_some2 hf
  refine g_callVi (pc := 857) [.int 9] [] cx lk_L_13 vw_X8 (LTramWires_o h1) (by decide) (c_X8_count h1 hc2) dL_known_857 (Nat.le_of_ble_eq_true rfl) ?_
  refine g_bipush (pc := 860) (v := 33) cx dL_known_860 (by decide) ?_
  refine g_icmp_ne (pc := 862) (tgt := 927) cx dL_known_862 rfl hf (fun hf => ?_) (fun hf => ?_)
  · exact w_L_known_865 cx en h1 hf
  · refine g_sub [] [] rfl ?_
    exact w_L_known_927 cx en h1 hf
set_option maxHeartbeats 4000000 in
set_option maxRecDepth 100000 in
theorem w_L_known_809 {l : Launch} {w : Wp} {L : Ly} {E : Cx} {X : Nat} {R0 : Int32 × Mm} (cx : Ok w L E RL cL_known 2 8) (en : EnB E R0) (h1 : LTramWires w L X) : ∀ (k : Nat) {M : Mm} {x1 : Int32}, l_L_known_809 X k M x1 = some R0 → G l w L E M [(0, .ref X), (1, .int x1)] 809 [] := by
  intro k
  induction k with
  | zero =>
    intro M x1 hf
    exact absurd hf (by simp [l_L_known_809])
  | succ k ih =>
    intro M x1 hf
    unfold l_L_known_809 at hf
    refine g_iload_n (pc := 809) cx dL_known_809 rfl 1 rfl ?_
    refine g_bipush (pc := 810) (v := 12) cx dL_known_810 (by decide) ?_
    refine g_icmp_ge (pc := 812) (tgt := 843) cx dL_known_812 rfl hf (fun hf => ?_) (fun hf => ?_)
    · exact w_L_known_815 cx en h1 (fun _ _ hf => ih hf) hf
    · refine g_aload_n (pc := 843) cx dL_known_843 rfl 0 rfl ?_
      refine g_bipush (pc := 844) (v := 10) cx dL_known_844 (by decide) ?_
      obtain ⟨q3, M1, hc2, hf⟩ := obn_some2 hf
      refine g_callVi (pc := 846) [.int 10] [] cx lk_L_13 vw_X8 (LTramWires_o h1) (by decide) (c_X8_count h1 hc2) dL_known_846 (Nat.le_of_ble_eq_true rfl) ?_
      refine g_bipush (pc := 849) (v := 24) cx dL_known_849 (by decide) ?_
      refine g_icmp_ne (pc := 851) (tgt := 927) cx dL_known_851 rfl hf (fun hf => ?_) (fun hf => ?_)
      · refine g_sub [0] [(0, .ref X)] rfl ?_
        exact w_L_known_854 cx en h1 hf
      · refine g_sub [] [] rfl ?_
        exact w_L_known_927 cx en h1 hf
set_option maxHeartbeats 4000000 in
set_option maxRecDepth 100000 in
theorem w_L_known_805 {l : Launch} {w : Wp} {L : Ly} {E : Cx} {X : Nat} {R0 : Int32 × Mm} (cx : Ok w L E RL cL_known 2 8) (en : EnB E R0) (h1 : LTramWires w L X) {M : Mm} (hf : b_L_known_805 X M = some R0) : G l w L E M [] 805 [] := by
  unfold b_L_known_805 at hf
  refine g_iconst (pc := 805) (v := 0) cx dL_known_805 (by decide) ?_
  exact g_tret (pc := 806) cx en dL_known_806 hf
set_option maxHeartbeats 4000000 in
set_option maxRecDepth 100000 in
theorem w_L_known_795 {l : Launch} {w : Wp} {L : Ly} {E : Cx} {X : Nat} {R0 : Int32 × Mm} (cx : Ok w L E RL cL_known 2 8) (en : EnB E R0) (h1 : LTramWires w L X) {M : Mm} (hf : b_L_known_795 X M = some R0) : G l w L E M [(0, .ref X)] 795 [] := by
  unfold b_L_known_795 at hf
  refine g_aload_n (pc := 795) cx dL_known_795 rfl 0 rfl ?_
  refine g_iconst (pc := 796) (v := 0) cx dL_known_796 (by decide) ?_
  refine g_iconst (pc := 797) (v := 1) cx dL_known_797 (by decide) ?_
  obtain ⟨q3, M1, hc2, hf⟩ := obn_some2 hf
  refine g_callVi (pc := 798) [.int 0, .int 1] [] cx lk_L_57 vw_X8 (LTramWires_o h1) (by decide) (c_X8_step h1 hc2) dL_known_798 (Nat.le_of_ble_eq_true rfl) ?_
  refine g_iconst (pc := 801) (v := 2) cx dL_known_801 (by decide) ?_
  refine g_icmp_eq (pc := 802) (tgt := 807) cx dL_known_802 rfl hf (fun hf => ?_) (fun hf => ?_)
  · refine g_iconst (pc := 807) (v := 0) cx dL_known_807 (by decide) ?_
    refine g_istore_n (pc := 808) cx [(1, .int 0), (0, .ref X)] dL_known_808 rfl (by decide) rfl ?_
    refine g_sub [1, 0] [(0, .ref X), (1, .int 0)] rfl ?_
    exact w_L_known_809 cx en h1 FU hf
  · refine g_sub [] [] rfl ?_
    exact w_L_known_805 cx en h1 hf
set_option maxHeartbeats 4000000 in
set_option maxRecDepth 100000 in
theorem w_L_known_784 {l : Launch} {w : Wp} {L : Ly} {E : Cx} {X : Nat} {R0 : Int32 × Mm} (cx : Ok w L E RL cL_known 2 8) (en : EnB E R0) (h1 : LTramWires w L X) {M : Mm} (hf : b_L_known_784 X M = some R0) : G l w L E M [(0, .ref X)] 784 [] := by
  unfold b_L_known_784 at hf
  refine g_aload_n (pc := 784) cx dL_known_784 rfl 0 rfl ?_
  refine g_bipush (pc := 785) (v := 40) cx dL_known_785 (by decide) ?_
  obtain ⟨q3, M1, hc2, hf⟩ := obn_some2 hf
  refine g_callVi (pc := 787) [.int 40] [] cx lk_L_71 vw_X8 (LTramWires_o h1) (by decide) (c_X8_pool h1 hc2) dL_known_787 (Nat.le_of_ble_eq_true rfl) ?_
  refine g_bipush (pc := 790) (v := 35) cx dL_known_790 (by decide) ?_
  refine g_icmp_ne (pc := 792) (tgt := 805) cx dL_known_792 rfl hf (fun hf => ?_) (fun hf => ?_)
  · exact w_L_known_795 cx en h1 hf
  · refine g_sub [] [] rfl ?_
    exact w_L_known_805 cx en h1 hf
set_option maxHeartbeats 4000000 in
set_option maxRecDepth 100000 in
theorem w_L_known_774 {l : Launch} {w : Wp} {L : Ly} {E : Cx} {X : Nat} {R0 : Int32 × Mm} (cx : Ok w L E RL cL_known 2 8) (en : EnB E R0) (h1 : LTramWires w L X) {M : Mm} (hf : b_L_known_774 X M = some R0) : G l w L E M [(0, .ref X)] 774 [] := by
  unfold b_L_known_774 at hf
  refine g_aload_n (pc := 774) cx dL_known_774 rfl 0 rfl ?_
  refine g_iconst (pc := 775) (v := 2) cx dL_known_775 (by decide) ?_
  refine g_iconst (pc := 776) (v := 1) cx dL_known_776 (by decide) ?_
  obtain ⟨q3, M1, hc2, hf⟩ := obn_some2 hf
  refine g_callVi (pc := 777) [.int 2, .int 1] [] cx lk_L_57 vw_X8 (LTramWires_o h1) (by decide) (c_X8_step h1 hc2) dL_known_777 (Nat.le_of_ble_eq_true rfl) ?_
  refine g_iconst (pc := 780) (v := 2) cx dL_known_780 (by decide) ?_
  refine g_icmp_ne (pc := 781) (tgt := 805) cx dL_known_781 rfl hf (fun hf => ?_) (fun hf => ?_)
  · exact w_L_known_784 cx en h1 hf
  · refine g_sub [] [] rfl ?_
    exact w_L_known_805 cx en h1 hf
set_option maxHeartbeats 4000000 in
set_option maxRecDepth 100000 in
theorem w_L_known_762 {l : Launch} {w : Wp} {L : Ly} {E : Cx} {X : Nat} {R0 : Int32 × Mm} (cx : Ok w L E RL cL_known 2 8) (en : EnB E R0) (h1 : LTramWires w L X) {M : Mm} (hf : b_L_known_762 X M = some R0) : G l w L E M [] 762 [] := by
  unfold b_L_known_762 at hf
  refine g_iconst (pc := 762) (v := 0) cx dL_known_762 (by decide) ?_
  exact g_tret (pc := 763) cx en dL_known_763 hf
set_option maxHeartbeats 4000000 in
set_option maxRecDepth 100000 in
theorem w_L_known_751 {l : Launch} {w : Wp} {L : Ly} {E : Cx} {X : Nat} {R0 : Int32 × Mm} (cx : Ok w L E RL cL_known 2 8) (en : EnB E R0) (h1 : LTramWires w L X) {M : Mm} (hf : b_L_known_751 X M = some R0) : G l w L E M [(0, .ref X)] 751 [] := by
  unfold b_L_known_751 at hf
  refine g_aload_n (pc := 751) cx dL_known_751 rfl 0 rfl ?_
  refine g_bipush (pc := 752) (v := 9) cx dL_known_752 (by decide) ?_
  obtain ⟨q3, M1, hc2, hf⟩ := obn_some2 hf
  refine g_callVi (pc := 754) [.int 9] [] cx lk_L_13 vw_X8 (LTramWires_o h1) (by decide) (c_X8_count h1 hc2) dL_known_754 (Nat.le_of_ble_eq_true rfl) ?_
  refine g_bipush (pc := 757) (v := 6) cx dL_known_757 (by decide) ?_
  refine g_icmp_eq (pc := 759) (tgt := 764) cx dL_known_759 rfl hf (fun hf => ?_) (fun hf => ?_)
  · refine g_aload_n (pc := 764) cx dL_known_764 rfl 0 rfl ?_
    refine g_iconst (pc := 765) (v := 0) cx dL_known_765 (by decide) ?_
    refine g_iconst (pc := 766) (v := 2) cx dL_known_766 (by decide) ?_
    obtain ⟨q6, M4, hc5, hf⟩ := obn_some2 hf
    refine g_callVi (pc := 767) [.int 0, .int 2] [] cx lk_L_57 vw_X8 (LTramWires_o h1) (by decide) (c_X8_step h1 hc5) dL_known_767 (Nat.le_of_ble_eq_true rfl) ?_
    refine g_iconst (pc := 770) (v := 3) cx dL_known_770 (by decide) ?_
    refine g_icmp_ne (pc := 771) (tgt := 805) cx dL_known_771 rfl hf (fun hf => ?_) (fun hf => ?_)
    · exact w_L_known_774 cx en h1 hf
    · refine g_sub [] [] rfl ?_
      exact w_L_known_805 cx en h1 hf
  · refine g_sub [] [] rfl ?_
    exact w_L_known_762 cx en h1 hf
set_option maxHeartbeats 4000000 in
set_option maxRecDepth 100000 in
theorem w_L_known_742 {l : Launch} {w : Wp} {L : Ly} {E : Cx} {X : Nat} {R0 : Int32 × Mm} (cx : Ok w L E RL cL_known 2 8) (en : EnB E R0) (h1 : LTramWires w L X) {M : Mm} (hf : b_L_known_742 X M = some R0) : G l w L E M [(0, .ref X)] 742 [] := by
  unfold b_L_known_742 at hf
  refine g_aload_n (pc := 742) cx dL_known_742 rfl 0 rfl ?_
  refine g_iconst (pc := 743) (v := 5) cx dL_known_743 (by decide) ?_
  refine g_iconst (pc := 744) (v := 2) cx dL_known_744 (by decide) ?_
  obtain ⟨q3, M1, hc2, hf⟩ := obn_some2 hf
  refine g_callVi (pc := 745) [.int 5, .int 2] [] cx lk_L_32 vw_X8 (LTramWires_o h1) (by decide) (c_X8_log h1 hc2) dL_known_745 (Nat.le_of_ble_eq_true rfl) ?_
  refine g_if_ne (pc := 748) (tgt := 762) cx dL_known_748 rfl hf (fun hf => ?_) (fun hf => ?_)
  · exact w_L_known_751 cx en h1 hf
  · refine g_sub [] [] rfl ?_
    exact w_L_known_762 cx en h1 hf
set_option maxHeartbeats 4000000 in
set_option maxRecDepth 100000 in
theorem w_L_known_730 {l : Launch} {w : Wp} {L : Ly} {E : Cx} {X : Nat} {R0 : Int32 × Mm} (cx : Ok w L E RL cL_known 2 8) (en : EnB E R0) (h1 : LTramWires w L X) {M : Mm} (hf : b_L_known_730 X M = some R0) : G l w L E M [(0, .ref X)] 730 [] := by
  unfold b_L_known_730 at hf
  refine g_aload_n (pc := 730) cx dL_known_730 rfl 0 rfl ?_
  refine g_iconst (pc := 731) (v := 0) cx dL_known_731 (by decide) ?_
  refine g_iconst (pc := 732) (v := 2) cx dL_known_732 (by decide) ?_
  obtain ⟨q3, M1, hc2, hf⟩ := obn_some2 hf
  refine g_callVi (pc := 733) [.int 0, .int 2] [] cx lk_L_32 vw_X8 (LTramWires_o h1) (by decide) (c_X8_log h1 hc2) dL_known_733 (Nat.le_of_ble_eq_true rfl) ?_
  refine g_sipush (pc := 736) (v := 130) cx dL_known_736 (by decide) ?_
  refine g_icmp_ne (pc := 739) (tgt := 762) cx dL_known_739 rfl hf (fun hf => ?_) (fun hf => ?_)
  · exact w_L_known_742 cx en h1 hf
  · refine g_sub [] [] rfl ?_
    exact w_L_known_762 cx en h1 hf
set_option maxHeartbeats 4000000 in
set_option maxRecDepth 100000 in
theorem w_L_known_720 {l : Launch} {w : Wp} {L : Ly} {E : Cx} {X : Nat} {R0 : Int32 × Mm} (cx : Ok w L E RL cL_known 2 8) (en : EnB E R0) (h1 : LTramWires w L X) {M : Mm} (hf : b_L_known_720 X M = some R0) : G l w L E M [(0, .ref X)] 720 [] := by
  unfold b_L_known_720 at hf
  refine g_aload_n (pc := 720) cx dL_known_720 rfl 0 rfl ?_
  refine g_iconst (pc := 721) (v := 3) cx dL_known_721 (by decide) ?_
  obtain ⟨q3, M1, hc2, hf⟩ := obn_some2 hf
  refine g_callVi (pc := 722) [.int 3] [] cx lk_L_13 vw_X8 (LTramWires_o h1) (by decide) (c_X8_count h1 hc2) dL_known_722 (Nat.le_of_ble_eq_true rfl) ?_
  refine g_bipush (pc := 725) (v := 9) cx dL_known_725 (by decide) ?_
  refine g_icmp_ne (pc := 727) (tgt := 762) cx dL_known_727 rfl hf (fun hf => ?_) (fun hf => ?_)
  · exact w_L_known_730 cx en h1 hf
  · refine g_sub [] [] rfl ?_
    exact w_L_known_762 cx en h1 hf
set_option maxHeartbeats 4000000 in
set_option maxRecDepth 100000 in
theorem w_L_known_709 {l : Launch} {w : Wp} {L : Ly} {E : Cx} {X : Nat} {R0 : Int32 × Mm} (cx : Ok w L E RL cL_known 2 8) (en : EnB E R0) (h1 : LTramWires w L X) {M : Mm} (hf : b_L_known_709 X M = some R0) : G l w L E M [(0, .ref X)] 709 [] := by
  unfold b_L_known_709 at hf
  refine g_aload_n (pc := 709) cx dL_known_709 rfl 0 rfl ?_
  refine g_iconst (pc := 710) (v := 1) cx dL_known_710 (by decide) ?_
  refine g_iconst (pc := 711) (v := 2) cx dL_known_711 (by decide) ?_
  obtain ⟨q3, M1, hc2, hf⟩ := obn_some2 hf
  refine g_callVi (pc := 712) [.int 1, .int 2] [] cx lk_L_54 vw_X8 (LTramWires_o h1) (by decide) (c_X8_refusal h1 hc2) dL_known_712 (Nat.le_of_ble_eq_true rfl) ?_
  refine g_bipush (pc := 715) (v := 21) cx dL_known_715 (by decide) ?_
  refine g_icmp_ne (pc := 717) (tgt := 762) cx dL_known_717 rfl hf (fun hf => ?_) (fun hf => ?_)
  · exact w_L_known_720 cx en h1 hf
  · refine g_sub [] [] rfl ?_
    exact w_L_known_762 cx en h1 hf
set_option maxHeartbeats 4000000 in
set_option maxRecDepth 100000 in
theorem w_L_known_699 {l : Launch} {w : Wp} {L : Ly} {E : Cx} {X : Nat} {R0 : Int32 × Mm} (cx : Ok w L E RL cL_known 2 8) (en : EnB E R0) (h1 : LTramWires w L X) {M : Mm} (hf : b_L_known_699 X M = some R0) : G l w L E M [(0, .ref X)] 699 [] := by
  unfold b_L_known_699 at hf
  refine g_aload_n (pc := 699) cx dL_known_699 rfl 0 rfl ?_
  refine g_iconst (pc := 700) (v := 1) cx dL_known_700 (by decide) ?_
  refine g_iconst (pc := 701) (v := 2) cx dL_known_701 (by decide) ?_
  obtain ⟨q3, M1, hc2, hf⟩ := obn_some2 hf
  refine g_callVi (pc := 702) [.int 1, .int 2] [] cx lk_L_57 vw_X8 (LTramWires_o h1) (by decide) (c_X8_step h1 hc2) dL_known_702 (Nat.le_of_ble_eq_true rfl) ?_
  refine g_iconst (pc := 705) (v := 3) cx dL_known_705 (by decide) ?_
  refine g_icmp_ne (pc := 706) (tgt := 762) cx dL_known_706 rfl hf (fun hf => ?_) (fun hf => ?_)
  · exact w_L_known_709 cx en h1 hf
  · refine g_sub [] [] rfl ?_
    exact w_L_known_762 cx en h1 hf
set_option maxHeartbeats 4000000 in
set_option maxRecDepth 100000 in
theorem w_L_known_688 {l : Launch} {w : Wp} {L : Ly} {E : Cx} {X : Nat} {R0 : Int32 × Mm} (cx : Ok w L E RL cL_known 2 8) (en : EnB E R0) (h1 : LTramWires w L X) {M : Mm} (hf : b_L_known_688 X M = some R0) : G l w L E M [(0, .ref X)] 688 [] := by
  unfold b_L_known_688 at hf
  refine g_aload_n (pc := 688) cx dL_known_688 rfl 0 rfl ?_
  refine g_iconst (pc := 689) (v := 3) cx dL_known_689 (by decide) ?_
  refine g_iconst (pc := 690) (v := 1) cx dL_known_690 (by decide) ?_
  obtain ⟨q3, M1, hc2, hf⟩ := obn_some2 hf
  refine g_callVi (pc := 691) [.int 3, .int 1] [] cx lk_L_54 vw_X8 (LTramWires_o h1) (by decide) (c_X8_refusal h1 hc2) dL_known_691 (Nat.le_of_ble_eq_true rfl) ?_
  refine g_bipush (pc := 694) (v := 41) cx dL_known_694 (by decide) ?_
  refine g_icmp_ne (pc := 696) (tgt := 762) cx dL_known_696 rfl hf (fun hf => ?_) (fun hf => ?_)
  · exact w_L_known_699 cx en h1 hf
  · refine g_sub [] [] rfl ?_
    exact w_L_known_762 cx en h1 hf
set_option maxHeartbeats 4000000 in
set_option maxRecDepth 100000 in
theorem w_L_known_678 {l : Launch} {w : Wp} {L : Ly} {E : Cx} {X : Nat} {R0 : Int32 × Mm} (cx : Ok w L E RL cL_known 2 8) (en : EnB E R0) (h1 : LTramWires w L X) {M : Mm} (hf : b_L_known_678 X M = some R0) : G l w L E M [(0, .ref X)] 678 [] := by
  unfold b_L_known_678 at hf
  refine g_aload_n (pc := 678) cx dL_known_678 rfl 0 rfl ?_
  refine g_iconst (pc := 679) (v := 3) cx dL_known_679 (by decide) ?_
  refine g_iconst (pc := 680) (v := 1) cx dL_known_680 (by decide) ?_
  obtain ⟨q3, M1, hc2, hf⟩ := obn_some2 hf
  refine g_callVi (pc := 681) [.int 3, .int 1] [] cx lk_L_57 vw_X8 (LTramWires_o h1) (by decide) (c_X8_step h1 hc2) dL_known_681 (Nat.le_of_ble_eq_true rfl) ?_
  refine g_iconst (pc := 684) (v := 3) cx dL_known_684 (by decide) ?_
  refine g_icmp_ne (pc := 685) (tgt := 762) cx dL_known_685 rfl hf (fun hf => ?_) (fun hf => ?_)
  · exact w_L_known_688 cx en h1 hf
  · refine g_sub [] [] rfl ?_
    exact w_L_known_762 cx en h1 hf
set_option maxHeartbeats 4000000 in
set_option maxRecDepth 100000 in
theorem w_L_known_668 {l : Launch} {w : Wp} {L : Ly} {E : Cx} {X : Nat} {R0 : Int32 × Mm} (cx : Ok w L E RL cL_known 2 8) (en : EnB E R0) (h1 : LTramWires w L X) {M : Mm} (hf : b_L_known_668 X M = some R0) : G l w L E M [(0, .ref X)] 668 [] := by
  unfold b_L_known_668 at hf
  refine g_aload_n (pc := 668) cx dL_known_668 rfl 0 rfl ?_
  refine g_iconst (pc := 669) (v := 2) cx dL_known_669 (by decide) ?_
  obtain ⟨q3, M1, hc2, hf⟩ := obn_some2 hf
  refine g_callVi (pc := 670) [.int 2] [] cx lk_L_48 vw_X8 (LTramWires_o h1) (by decide) (c_X8_fetch h1 hc2) dL_known_670 (Nat.le_of_ble_eq_true rfl) ?_
  refine g_bipush (pc := 673) (v := (-2)) cx dL_known_673 (by decide) ?_
  refine g_icmp_ne (pc := 675) (tgt := 762) cx dL_known_675 rfl hf (fun hf => ?_) (fun hf => ?_)
  · exact w_L_known_678 cx en h1 hf
  · refine g_sub [] [] rfl ?_
    exact w_L_known_762 cx en h1 hf
set_option maxHeartbeats 4000000 in
set_option maxRecDepth 100000 in
theorem w_L_known_659 {l : Launch} {w : Wp} {L : Ly} {E : Cx} {X : Nat} {R0 : Int32 × Mm} (cx : Ok w L E RL cL_known 2 8) (en : EnB E R0) (h1 : LTramWires w L X) {M : Mm} (hf : b_L_known_659 X M = some R0) : G l w L E M [(0, .ref X)] 659 [] := by
  unfold b_L_known_659 at hf
  refine g_aload_n (pc := 659) cx dL_known_659 rfl 0 rfl ?_
  refine g_iconst (pc := 660) (v := 2) cx dL_known_660 (by decide) ?_
  obtain ⟨q3, M1, hc2, hf⟩ := obn_some2 hf
  refine g_callVi (pc := 661) [.int 2] [] cx lk_L_48 vw_X8 (LTramWires_o h1) (by decide) (c_X8_fetch h1 hc2) dL_known_661 (Nat.le_of_ble_eq_true rfl) ?_
  refine g_iconst (pc := 664) (v := 2) cx dL_known_664 (by decide) ?_
  refine g_icmp_ne (pc := 665) (tgt := 762) cx dL_known_665 rfl hf (fun hf => ?_) (fun hf => ?_)
  · exact w_L_known_668 cx en h1 hf
  · refine g_sub [] [] rfl ?_
    exact w_L_known_762 cx en h1 hf
set_option maxHeartbeats 4000000 in
set_option maxRecDepth 100000 in
theorem w_L_known_647 {l : Launch} {w : Wp} {L : Ly} {E : Cx} {X : Nat} {R0 : Int32 × Mm} (cx : Ok w L E RL cL_known 2 8) (en : EnB E R0) (h1 : LTramWires w L X) {M : Mm} (hf : b_L_known_647 X M = some R0) : G l w L E M [(0, .ref X)] 647 [] := by
  unfold b_L_known_647 at hf
  refine g_aload_n (pc := 647) cx dL_known_647 rfl 0 rfl ?_
  refine g_bipush (pc := 648) (v := 7) cx dL_known_648 (by decide) ?_
  refine g_iconst (pc := 650) (v := 2) cx dL_known_650 (by decide) ?_
  obtain ⟨q3, M1, hc2, hf⟩ := obn_some2 hf
  refine g_callVi (pc := 651) [.int 7, .int 2] [] cx lk_L_54 vw_X8 (LTramWires_o h1) (by decide) (c_X8_refusal h1 hc2) dL_known_651 (Nat.le_of_ble_eq_true rfl) ?_
  refine g_bipush (pc := 654) (v := 81) cx dL_known_654 (by decide) ?_
  refine g_icmp_ne (pc := 656) (tgt := 762) cx dL_known_656 rfl hf (fun hf => ?_) (fun hf => ?_)
  · exact w_L_known_659 cx en h1 hf
  · refine g_sub [] [] rfl ?_
    exact w_L_known_762 cx en h1 hf
set_option maxHeartbeats 4000000 in
set_option maxRecDepth 100000 in
theorem w_L_known_636 {l : Launch} {w : Wp} {L : Ly} {E : Cx} {X : Nat} {R0 : Int32 × Mm} (cx : Ok w L E RL cL_known 2 8) (en : EnB E R0) (h1 : LTramWires w L X) {M : Mm} (hf : b_L_known_636 X M = some R0) : G l w L E M [(0, .ref X)] 636 [] := by
  unfold b_L_known_636 at hf
  refine g_aload_n (pc := 636) cx dL_known_636 rfl 0 rfl ?_
  refine g_iconst (pc := 637) (v := 1) cx dL_known_637 (by decide) ?_
  refine g_iconst (pc := 638) (v := 2) cx dL_known_638 (by decide) ?_
  obtain ⟨q3, M1, hc2, hf⟩ := obn_some2 hf
  refine g_callVi (pc := 639) [.int 1, .int 2] [] cx lk_L_51 vw_X8 (LTramWires_o h1) (by decide) (c_X8_isolator h1 hc2) dL_known_639 (Nat.le_of_ble_eq_true rfl) ?_
  refine g_bipush (pc := 642) (v := (-2)) cx dL_known_642 (by decide) ?_
  refine g_icmp_ne (pc := 644) (tgt := 762) cx dL_known_644 rfl hf (fun hf => ?_) (fun hf => ?_)
  · exact w_L_known_647 cx en h1 hf
  · refine g_sub [] [] rfl ?_
    exact w_L_known_762 cx en h1 hf
set_option maxHeartbeats 4000000 in
set_option maxRecDepth 100000 in
theorem w_L_known_625 {l : Launch} {w : Wp} {L : Ly} {E : Cx} {X : Nat} {R0 : Int32 × Mm} (cx : Ok w L E RL cL_known 2 8) (en : EnB E R0) (h1 : LTramWires w L X) {M : Mm} (hf : b_L_known_625 X M = some R0) : G l w L E M [(0, .ref X)] 625 [] := by
  unfold b_L_known_625 at hf
  refine g_aload_n (pc := 625) cx dL_known_625 rfl 0 rfl ?_
  refine g_iconst (pc := 626) (v := 3) cx dL_known_626 (by decide) ?_
  refine g_iconst (pc := 627) (v := 1) cx dL_known_627 (by decide) ?_
  obtain ⟨q3, M1, hc2, hf⟩ := obn_some2 hf
  refine g_callVi (pc := 628) [.int 3, .int 1] [] cx lk_L_54 vw_X8 (LTramWires_o h1) (by decide) (c_X8_refusal h1 hc2) dL_known_628 (Nat.le_of_ble_eq_true rfl) ?_
  refine g_bipush (pc := 631) (v := 43) cx dL_known_631 (by decide) ?_
  refine g_icmp_ne (pc := 633) (tgt := 762) cx dL_known_633 rfl hf (fun hf => ?_) (fun hf => ?_)
  · exact w_L_known_636 cx en h1 hf
  · refine g_sub [] [] rfl ?_
    exact w_L_known_762 cx en h1 hf
set_option maxHeartbeats 4000000 in
set_option maxRecDepth 100000 in
theorem w_L_known_614 {l : Launch} {w : Wp} {L : Ly} {E : Cx} {X : Nat} {R0 : Int32 × Mm} (cx : Ok w L E RL cL_known 2 8) (en : EnB E R0) (h1 : LTramWires w L X) {M : Mm} (hf : b_L_known_614 X M = some R0) : G l w L E M [(0, .ref X)] 614 [] := by
  unfold b_L_known_614 at hf
  refine g_aload_n (pc := 614) cx dL_known_614 rfl 0 rfl ?_
  refine g_bipush (pc := 615) (v := 7) cx dL_known_615 (by decide) ?_
  refine g_iconst (pc := 617) (v := 2) cx dL_known_617 (by decide) ?_
  obtain ⟨q3, M1, hc2, hf⟩ := obn_some2 hf
  refine g_callVi (pc := 618) [.int 7, .int 2] [] cx lk_L_57 vw_X8 (LTramWires_o h1) (by decide) (c_X8_step h1 hc2) dL_known_618 (Nat.le_of_ble_eq_true rfl) ?_
  refine g_iconst (pc := 621) (v := 2) cx dL_known_621 (by decide) ?_
  refine g_icmp_ne (pc := 622) (tgt := 762) cx dL_known_622 rfl hf (fun hf => ?_) (fun hf => ?_)
  · exact w_L_known_625 cx en h1 hf
  · refine g_sub [] [] rfl ?_
    exact w_L_known_762 cx en h1 hf
set_option maxHeartbeats 4000000 in
set_option maxRecDepth 100000 in
theorem w_L_known_602 {l : Launch} {w : Wp} {L : Ly} {E : Cx} {X : Nat} {R0 : Int32 × Mm} (cx : Ok w L E RL cL_known 2 8) (en : EnB E R0) (h1 : LTramWires w L X) {M : Mm} (hf : b_L_known_602 X M = some R0) : G l w L E M [(0, .ref X)] 602 [] := by
  unfold b_L_known_602 at hf
  refine g_aload_n (pc := 602) cx dL_known_602 rfl 0 rfl ?_
  refine g_iconst (pc := 603) (v := 2) cx dL_known_603 (by decide) ?_
  refine g_bipush (pc := 604) (v := 10) cx dL_known_604 (by decide) ?_
  obtain ⟨q3, M1, hc2, hf⟩ := obn_some2 hf
  refine g_callVi (pc := 606) [.int 2, .int 10] [] cx lk_L_25 vw_X8 (LTramWires_o h1) (by decide) (c_X8_sectionOf h1 hc2) dL_known_606 (Nat.le_of_ble_eq_true rfl) ?_
  refine g_bipush (pc := 609) (v := (-4)) cx dL_known_609 (by decide) ?_
  refine g_icmp_ne (pc := 611) (tgt := 762) cx dL_known_611 rfl hf (fun hf => ?_) (fun hf => ?_)
  · exact w_L_known_614 cx en h1 hf
  · refine g_sub [] [] rfl ?_
    exact w_L_known_762 cx en h1 hf
set_option maxHeartbeats 4000000 in
set_option maxRecDepth 100000 in
theorem w_L_known_591 {l : Launch} {w : Wp} {L : Ly} {E : Cx} {X : Nat} {R0 : Int32 × Mm} (cx : Ok w L E RL cL_known 2 8) (en : EnB E R0) (h1 : LTramWires w L X) {M : Mm} (hf : b_L_known_591 X M = some R0) : G l w L E M [(0, .ref X)] 591 [] := by
  unfold b_L_known_591 at hf
  refine g_aload_n (pc := 591) cx dL_known_591 rfl 0 rfl ?_
  refine g_iconst (pc := 592) (v := 2) cx dL_known_592 (by decide) ?_
  refine g_bipush (pc := 593) (v := 7) cx dL_known_593 (by decide) ?_
  obtain ⟨q3, M1, hc2, hf⟩ := obn_some2 hf
  refine g_callVi (pc := 595) [.int 2, .int 7] [] cx lk_L_25 vw_X8 (LTramWires_o h1) (by decide) (c_X8_sectionOf h1 hc2) dL_known_595 (Nat.le_of_ble_eq_true rfl) ?_
  refine g_iconst (pc := 598) (v := 2) cx dL_known_598 (by decide) ?_
  refine g_icmp_ne (pc := 599) (tgt := 762) cx dL_known_599 rfl hf (fun hf => ?_) (fun hf => ?_)
  · exact w_L_known_602 cx en h1 hf
  · refine g_sub [] [] rfl ?_
    exact w_L_known_762 cx en h1 hf
set_option maxHeartbeats 4000000 in
set_option maxRecDepth 100000 in
theorem w_L_known_582 {l : Launch} {w : Wp} {L : Ly} {E : Cx} {X : Nat} {R0 : Int32 × Mm} (cx : Ok w L E RL cL_known 2 8) (en : EnB E R0) (h1 : LTramWires w L X) {M : Mm} (hf : b_L_known_582 X M = some R0) : G l w L E M [(0, .ref X)] 582 [] := by
  unfold b_L_known_582 at hf
  refine g_aload_n (pc := 582) cx dL_known_582 rfl 0 rfl ?_
  refine g_bipush (pc := 583) (v := 12) cx dL_known_583 (by decide) ?_
  obtain ⟨q3, M1, hc2, hf⟩ := obn_some2 hf
  refine g_callVi (pc := 585) [.int 12] [] cx lk_L_13 vw_X8 (LTramWires_o h1) (by decide) (c_X8_count h1 hc2) dL_known_585 (Nat.le_of_ble_eq_true rfl) ?_
  refine g_if_ne (pc := 588) (tgt := 762) cx dL_known_588 rfl hf (fun hf => ?_) (fun hf => ?_)
  · exact w_L_known_591 cx en h1 hf
  · refine g_sub [] [] rfl ?_
    exact w_L_known_762 cx en h1 hf
set_option maxHeartbeats 4000000 in
set_option maxRecDepth 100000 in
theorem w_L_known_571 {l : Launch} {w : Wp} {L : Ly} {E : Cx} {X : Nat} {R0 : Int32 × Mm} (cx : Ok w L E RL cL_known 2 8) (en : EnB E R0) (h1 : LTramWires w L X) {M : Mm} (hf : b_L_known_571 X M = some R0) : G l w L E M [(0, .ref X)] 571 [] := by
  unfold b_L_known_571 at hf
  refine g_aload_n (pc := 571) cx dL_known_571 rfl 0 rfl ?_
  refine g_bipush (pc := 572) (v := 11) cx dL_known_572 (by decide) ?_
  obtain ⟨q3, M1, hc2, hf⟩ := obn_some2 hf
  refine g_callVi (pc := 574) [.int 11] [] cx lk_L_13 vw_X8 (LTramWires_o h1) (by decide) (c_X8_count h1 hc2) dL_known_574 (Nat.le_of_ble_eq_true rfl) ?_
  refine g_bipush (pc := 577) (v := 30) cx dL_known_577 (by decide) ?_
  refine g_icmp_ne (pc := 579) (tgt := 762) cx dL_known_579 rfl hf (fun hf => ?_) (fun hf => ?_)
  · exact w_L_known_582 cx en h1 hf
  · refine g_sub [] [] rfl ?_
    exact w_L_known_762 cx en h1 hf
set_option maxHeartbeats 4000000 in
set_option maxRecDepth 100000 in
theorem w_L_known_560 {l : Launch} {w : Wp} {L : Ly} {E : Cx} {X : Nat} {R0 : Int32 × Mm} (cx : Ok w L E RL cL_known 2 8) (en : EnB E R0) (h1 : LTramWires w L X) {M : Mm} (hf : b_L_known_560 X M = some R0) : G l w L E M [(0, .ref X)] 560 [] := by
  unfold b_L_known_560 at hf
  refine g_aload_n (pc := 560) cx dL_known_560 rfl 0 rfl ?_
  refine g_iconst (pc := 561) (v := 2) cx dL_known_561 (by decide) ?_
  refine g_iconst (pc := 562) (v := 1) cx dL_known_562 (by decide) ?_
  obtain ⟨q3, M1, hc2, hf⟩ := obn_some2 hf
  refine g_callVi (pc := 563) [.int 2, .int 1] [] cx lk_L_45 vw_X8 (LTramWires_o h1) (by decide) (c_X8_leave h1 hc2) dL_known_563 (Nat.le_of_ble_eq_true rfl) ?_
  refine g_bipush (pc := 566) (v := 30) cx dL_known_566 (by decide) ?_
  refine g_icmp_ne (pc := 568) (tgt := 762) cx dL_known_568 rfl hf (fun hf => ?_) (fun hf => ?_)
  · exact w_L_known_571 cx en h1 hf
  · refine g_sub [] [] rfl ?_
    exact w_L_known_762 cx en h1 hf
set_option maxHeartbeats 4000000 in
set_option maxRecDepth 100000 in
theorem w_L_known_549 {l : Launch} {w : Wp} {L : Ly} {E : Cx} {X : Nat} {R0 : Int32 × Mm} (cx : Ok w L E RL cL_known 2 8) (en : EnB E R0) (h1 : LTramWires w L X) {M : Mm} (hf : b_L_known_549 X M = some R0) : G l w L E M [(0, .ref X)] 549 [] := by
  unfold b_L_known_549 at hf
  refine g_aload_n (pc := 549) cx dL_known_549 rfl 0 rfl ?_
  refine g_iconst (pc := 550) (v := 2) cx dL_known_550 (by decide) ?_
  refine g_iconst (pc := 551) (v := 4) cx dL_known_551 (by decide) ?_
  obtain ⟨q3, M1, hc2, hf⟩ := obn_some2 hf
  refine g_callVi (pc := 552) [.int 2, .int 4] [] cx lk_L_45 vw_X8 (LTramWires_o h1) (by decide) (c_X8_leave h1 hc2) dL_known_552 (Nat.le_of_ble_eq_true rfl) ?_
  refine g_bipush (pc := 555) (v := (-2)) cx dL_known_555 (by decide) ?_
  refine g_icmp_ne (pc := 557) (tgt := 762) cx dL_known_557 rfl hf (fun hf => ?_) (fun hf => ?_)
  · exact w_L_known_560 cx en h1 hf
  · refine g_sub [] [] rfl ?_
    exact w_L_known_762 cx en h1 hf
set_option maxHeartbeats 4000000 in
set_option maxRecDepth 100000 in
theorem w_L_known_539 {l : Launch} {w : Wp} {L : Ly} {E : Cx} {X : Nat} {R0 : Int32 × Mm} (cx : Ok w L E RL cL_known 2 8) (en : EnB E R0) (h1 : LTramWires w L X) {M : Mm} (hf : b_L_known_539 X M = some R0) : G l w L E M [(0, .ref X)] 539 [] := by
  unfold b_L_known_539 at hf
  refine g_aload_n (pc := 539) cx dL_known_539 rfl 0 rfl ?_
  refine g_bipush (pc := 540) (v := 12) cx dL_known_540 (by decide) ?_
  obtain ⟨q3, M1, hc2, hf⟩ := obn_some2 hf
  refine g_callVi (pc := 542) [.int 12] [] cx lk_L_13 vw_X8 (LTramWires_o h1) (by decide) (c_X8_count h1 hc2) dL_known_542 (Nat.le_of_ble_eq_true rfl) ?_
  refine g_iconst (pc := 545) (v := 1) cx dL_known_545 (by decide) ?_
  refine g_icmp_ne (pc := 546) (tgt := 762) cx dL_known_546 rfl hf (fun hf => ?_) (fun hf => ?_)
  · exact w_L_known_549 cx en h1 hf
  · refine g_sub [] [] rfl ?_
    exact w_L_known_762 cx en h1 hf
set_option maxHeartbeats 4000000 in
set_option maxRecDepth 100000 in
theorem w_L_known_524 {l : Launch} {w : Wp} {L : Ly} {E : Cx} {X : Nat} {R0 : Int32 × Mm} (cx : Ok w L E RL cL_known 2 8) (en : EnB E R0) (h1 : LTramWires w L X) {M : Mm} (hf : b_L_known_524 X M = some R0) : G l w L E M [] 524 [] := by
  unfold b_L_known_524 at hf
  refine g_iconst (pc := 524) (v := 0) cx dL_known_524 (by decide) ?_
  exact g_tret (pc := 525) cx en dL_known_525 hf
set_option maxHeartbeats 4000000 in
set_option maxRecDepth 100000 in
theorem w_L_known_515 {l : Launch} {w : Wp} {L : Ly} {E : Cx} {X : Nat} {R0 : Int32 × Mm} (cx : Ok w L E RL cL_known 2 8) (en : EnB E R0) (h1 : LTramWires w L X) {M : Mm} (hf : b_L_known_515 X M = some R0) : G l w L E M [(0, .ref X)] 515 [] := by
  unfold b_L_known_515 at hf
  refine g_aload_n (pc := 515) cx dL_known_515 rfl 0 rfl ?_
  refine g_bipush (pc := 516) (v := 12) cx dL_known_516 (by decide) ?_
  obtain ⟨q3, M1, hc2, hf⟩ := obn_some2 hf
  refine g_callVi (pc := 518) [.int 12] [] cx lk_L_13 vw_X8 (LTramWires_o h1) (by decide) (c_X8_count h1 hc2) dL_known_518 (Nat.le_of_ble_eq_true rfl) ?_
  refine g_if_eq (pc := 521) (tgt := 526) cx dL_known_521 rfl hf (fun hf => ?_) (fun hf => ?_)
  · refine g_aload_n (pc := 526) cx dL_known_526 rfl 0 rfl ?_
    refine g_sipush (pc := 527) (v := 130) cx dL_known_527 (by decide) ?_
    obtain ⟨q6, M4, hc5, hf⟩ := obn_some2 hf
    refine g_callVi (pc := 530) [.int 130] [] cx lk_L_74 vw_X8 (LTramWires_o h1) (by decide) (c_X8_pass h1 hc5) dL_known_530 (Nat.le_of_ble_eq_true rfl) ?_
    refine g_sipush (pc := 533) (v := 130) cx dL_known_533 (by decide) ?_
    refine g_icmp_ne (pc := 536) (tgt := 762) cx dL_known_536 rfl hf (fun hf => ?_) (fun hf => ?_)
    · exact w_L_known_539 cx en h1 hf
    · refine g_sub [] [] rfl ?_
      exact w_L_known_762 cx en h1 hf
  · refine g_sub [] [] rfl ?_
    exact w_L_known_524 cx en h1 hf
set_option maxHeartbeats 4000000 in
set_option maxRecDepth 100000 in
theorem w_L_known_503 {l : Launch} {w : Wp} {L : Ly} {E : Cx} {X : Nat} {R0 : Int32 × Mm} (cx : Ok w L E RL cL_known 2 8) (en : EnB E R0) (h1 : LTramWires w L X) {M : Mm} (hf : b_L_known_503 X M = some R0) : G l w L E M [(0, .ref X)] 503 [] := by
  unfold b_L_known_503 at hf
  refine g_aload_n (pc := 503) cx dL_known_503 rfl 0 rfl ?_
  refine g_bipush (pc := 504) (v := 7) cx dL_known_504 (by decide) ?_
  refine g_iconst (pc := 506) (v := 2) cx dL_known_506 (by decide) ?_
  obtain ⟨q3, M1, hc2, hf⟩ := obn_some2 hf
  refine g_callVi (pc := 507) [.int 7, .int 2] [] cx lk_L_54 vw_X8 (LTramWires_o h1) (by decide) (c_X8_refusal h1 hc2) dL_known_507 (Nat.le_of_ble_eq_true rfl) ?_
  refine g_bipush (pc := 510) (v := 82) cx dL_known_510 (by decide) ?_
  refine g_icmp_ne (pc := 512) (tgt := 524) cx dL_known_512 rfl hf (fun hf => ?_) (fun hf => ?_)
  · exact w_L_known_515 cx en h1 hf
  · refine g_sub [] [] rfl ?_
    exact w_L_known_524 cx en h1 hf
set_option maxHeartbeats 4000000 in
set_option maxRecDepth 100000 in
theorem w_L_known_491 {l : Launch} {w : Wp} {L : Ly} {E : Cx} {X : Nat} {R0 : Int32 × Mm} (cx : Ok w L E RL cL_known 2 8) (en : EnB E R0) (h1 : LTramWires w L X) {M : Mm} (hf : b_L_known_491 X M = some R0) : G l w L E M [(0, .ref X)] 491 [] := by
  unfold b_L_known_491 at hf
  refine g_aload_n (pc := 491) cx dL_known_491 rfl 0 rfl ?_
  refine g_iconst (pc := 492) (v := 2) cx dL_known_492 (by decide) ?_
  refine g_bipush (pc := 493) (v := 10) cx dL_known_493 (by decide) ?_
  obtain ⟨q3, M1, hc2, hf⟩ := obn_some2 hf
  refine g_callVi (pc := 495) [.int 2, .int 10] [] cx lk_L_25 vw_X8 (LTramWires_o h1) (by decide) (c_X8_sectionOf h1 hc2) dL_known_495 (Nat.le_of_ble_eq_true rfl) ?_
  refine g_bipush (pc := 498) (v := 100) cx dL_known_498 (by decide) ?_
  refine g_icmp_ne (pc := 500) (tgt := 524) cx dL_known_500 rfl hf (fun hf => ?_) (fun hf => ?_)
  · exact w_L_known_503 cx en h1 hf
  · refine g_sub [] [] rfl ?_
    exact w_L_known_524 cx en h1 hf
set_option maxHeartbeats 4000000 in
set_option maxRecDepth 100000 in
theorem w_L_known_478 {l : Launch} {w : Wp} {L : Ly} {E : Cx} {X : Nat} {R0 : Int32 × Mm} (cx : Ok w L E RL cL_known 2 8) (en : EnB E R0) (h1 : LTramWires w L X) {M : Mm} (hf : b_L_known_478 X M = some R0) : G l w L E M [(0, .ref X)] 478 [] := by
  unfold b_L_known_478 at hf
  refine g_aload_n (pc := 478) cx dL_known_478 rfl 0 rfl ?_
  refine g_iconst (pc := 479) (v := 2) cx dL_known_479 (by decide) ?_
  refine g_iconst (pc := 480) (v := 3) cx dL_known_480 (by decide) ?_
  refine g_bipush (pc := 481) (v := 100) cx dL_known_481 (by decide) ?_
  obtain ⟨q3, M1, hc2, hf⟩ := obn_some2 hf
  refine g_callVi (pc := 483) [.int 2, .int 3, .int 100] [] cx lk_L_41 vw_X8 (LTramWires_o h1) (by decide) (c_X8_enter h1 hc2) dL_known_483 (Nat.le_of_ble_eq_true rfl) ?_
  refine g_bipush (pc := 486) (v := (-2)) cx dL_known_486 (by decide) ?_
  refine g_icmp_ne (pc := 488) (tgt := 524) cx dL_known_488 rfl hf (fun hf => ?_) (fun hf => ?_)
  · exact w_L_known_491 cx en h1 hf
  · refine g_sub [] [] rfl ?_
    exact w_L_known_524 cx en h1 hf
set_option maxHeartbeats 4000000 in
set_option maxRecDepth 100000 in
theorem w_L_known_466 {l : Launch} {w : Wp} {L : Ly} {E : Cx} {X : Nat} {R0 : Int32 × Mm} (cx : Ok w L E RL cL_known 2 8) (en : EnB E R0) (h1 : LTramWires w L X) {M : Mm} (hf : b_L_known_466 X M = some R0) : G l w L E M [(0, .ref X)] 466 [] := by
  unfold b_L_known_466 at hf
  refine g_aload_n (pc := 466) cx dL_known_466 rfl 0 rfl ?_
  refine g_iconst (pc := 467) (v := 2) cx dL_known_467 (by decide) ?_
  refine g_iconst (pc := 468) (v := 3) cx dL_known_468 (by decide) ?_
  refine g_bipush (pc := 469) (v := 100) cx dL_known_469 (by decide) ?_
  obtain ⟨q3, M1, hc2, hf⟩ := obn_some2 hf
  refine g_callVi (pc := 471) [.int 2, .int 3, .int 100] [] cx lk_L_41 vw_X8 (LTramWires_o h1) (by decide) (c_X8_enter h1 hc2) dL_known_471 (Nat.le_of_ble_eq_true rfl) ?_
  refine g_iconst (pc := 474) (v := 1) cx dL_known_474 (by decide) ?_
  refine g_icmp_ne (pc := 475) (tgt := 524) cx dL_known_475 rfl hf (fun hf => ?_) (fun hf => ?_)
  · exact w_L_known_478 cx en h1 hf
  · refine g_sub [] [] rfl ?_
    exact w_L_known_524 cx en h1 hf
set_option maxHeartbeats 4000000 in
set_option maxRecDepth 100000 in
theorem w_L_known_455 {l : Launch} {w : Wp} {L : Ly} {E : Cx} {X : Nat} {R0 : Int32 × Mm} (cx : Ok w L E RL cL_known 2 8) (en : EnB E R0) (h1 : LTramWires w L X) {M : Mm} (hf : b_L_known_455 X M = some R0) : G l w L E M [(0, .ref X)] 455 [] := by
  unfold b_L_known_455 at hf
  refine g_aload_n (pc := 455) cx dL_known_455 rfl 0 rfl ?_
  refine g_iconst (pc := 456) (v := 0) cx dL_known_456 (by decide) ?_
  refine g_iconst (pc := 457) (v := 2) cx dL_known_457 (by decide) ?_
  obtain ⟨q3, M1, hc2, hf⟩ := obn_some2 hf
  refine g_callVi (pc := 458) [.int 0, .int 2] [] cx lk_L_51 vw_X8 (LTramWires_o h1) (by decide) (c_X8_isolator h1 hc2) dL_known_458 (Nat.le_of_ble_eq_true rfl) ?_
  refine g_bipush (pc := 461) (v := (-2)) cx dL_known_461 (by decide) ?_
  refine g_icmp_ne (pc := 463) (tgt := 524) cx dL_known_463 rfl hf (fun hf => ?_) (fun hf => ?_)
  · exact w_L_known_466 cx en h1 hf
  · refine g_sub [] [] rfl ?_
    exact w_L_known_524 cx en h1 hf
set_option maxHeartbeats 4000000 in
set_option maxRecDepth 100000 in
theorem w_L_known_444 {l : Launch} {w : Wp} {L : Ly} {E : Cx} {X : Nat} {R0 : Int32 × Mm} (cx : Ok w L E RL cL_known 2 8) (en : EnB E R0) (h1 : LTramWires w L X) {M : Mm} (hf : b_L_known_444 X M = some R0) : G l w L E M [(0, .ref X)] 444 [] := by
  unfold b_L_known_444 at hf
  refine g_aload_n (pc := 444) cx dL_known_444 rfl 0 rfl ?_
  refine g_iconst (pc := 445) (v := 3) cx dL_known_445 (by decide) ?_
  refine g_iconst (pc := 446) (v := 1) cx dL_known_446 (by decide) ?_
  obtain ⟨q3, M1, hc2, hf⟩ := obn_some2 hf
  refine g_callVi (pc := 447) [.int 3, .int 1] [] cx lk_L_54 vw_X8 (LTramWires_o h1) (by decide) (c_X8_refusal h1 hc2) dL_known_447 (Nat.le_of_ble_eq_true rfl) ?_
  refine g_bipush (pc := 450) (v := 42) cx dL_known_450 (by decide) ?_
  refine g_icmp_ne (pc := 452) (tgt := 524) cx dL_known_452 rfl hf (fun hf => ?_) (fun hf => ?_)
  · exact w_L_known_455 cx en h1 hf
  · refine g_sub [] [] rfl ?_
    exact w_L_known_524 cx en h1 hf
set_option maxHeartbeats 4000000 in
set_option maxRecDepth 100000 in
theorem w_L_known_433 {l : Launch} {w : Wp} {L : Ly} {E : Cx} {X : Nat} {R0 : Int32 × Mm} (cx : Ok w L E RL cL_known 2 8) (en : EnB E R0) (h1 : LTramWires w L X) {M : Mm} (hf : b_L_known_433 X M = some R0) : G l w L E M [(0, .ref X)] 433 [] := by
  unfold b_L_known_433 at hf
  refine g_aload_n (pc := 433) cx dL_known_433 rfl 0 rfl ?_
  refine g_bipush (pc := 434) (v := 6) cx dL_known_434 (by decide) ?_
  refine g_iconst (pc := 436) (v := 2) cx dL_known_436 (by decide) ?_
  obtain ⟨q3, M1, hc2, hf⟩ := obn_some2 hf
  refine g_callVi (pc := 437) [.int 6, .int 2] [] cx lk_L_57 vw_X8 (LTramWires_o h1) (by decide) (c_X8_step h1 hc2) dL_known_437 (Nat.le_of_ble_eq_true rfl) ?_
  refine g_iconst (pc := 440) (v := 2) cx dL_known_440 (by decide) ?_
  refine g_icmp_ne (pc := 441) (tgt := 524) cx dL_known_441 rfl hf (fun hf => ?_) (fun hf => ?_)
  · exact w_L_known_444 cx en h1 hf
  · refine g_sub [] [] rfl ?_
    exact w_L_known_524 cx en h1 hf
set_option maxHeartbeats 4000000 in
set_option maxRecDepth 100000 in
theorem w_L_known_420 {l : Launch} {w : Wp} {L : Ly} {E : Cx} {X : Nat} {R0 : Int32 × Mm} (cx : Ok w L E RL cL_known 2 8) (en : EnB E R0) (h1 : LTramWires w L X) {M : Mm} (hf : b_L_known_420 X M = some R0) : G l w L E M [(0, .ref X)] 420 [] := by
  unfold b_L_known_420 at hf
  refine g_aload_n (pc := 420) cx dL_known_420 rfl 0 rfl ?_
  refine g_iconst (pc := 421) (v := 2) cx dL_known_421 (by decide) ?_
  refine g_iconst (pc := 422) (v := 3) cx dL_known_422 (by decide) ?_
  refine g_bipush (pc := 423) (v := 100) cx dL_known_423 (by decide) ?_
  obtain ⟨q3, M1, hc2, hf⟩ := obn_some2 hf
  refine g_callVi (pc := 425) [.int 2, .int 3, .int 100] [] cx lk_L_41 vw_X8 (LTramWires_o h1) (by decide) (c_X8_enter h1 hc2) dL_known_425 (Nat.le_of_ble_eq_true rfl) ?_
  refine g_bipush (pc := 428) (v := (-2)) cx dL_known_428 (by decide) ?_
  refine g_icmp_ne (pc := 430) (tgt := 524) cx dL_known_430 rfl hf (fun hf => ?_) (fun hf => ?_)
  · exact w_L_known_433 cx en h1 hf
  · refine g_sub [] [] rfl ?_
    exact w_L_known_524 cx en h1 hf
set_option maxHeartbeats 4000000 in
set_option maxRecDepth 100000 in
theorem w_L_known_410 {l : Launch} {w : Wp} {L : Ly} {E : Cx} {X : Nat} {R0 : Int32 × Mm} (cx : Ok w L E RL cL_known 2 8) (en : EnB E R0) (h1 : LTramWires w L X) {M : Mm} (hf : b_L_known_410 X M = some R0) : G l w L E M [(0, .ref X)] 410 [] := by
  unfold b_L_known_410 at hf
  refine g_aload_n (pc := 410) cx dL_known_410 rfl 0 rfl ?_
  refine g_bipush (pc := 411) (v := 6) cx dL_known_411 (by decide) ?_
  refine g_iconst (pc := 413) (v := 2) cx dL_known_413 (by decide) ?_
  obtain ⟨q3, M1, hc2, hf⟩ := obn_some2 hf
  refine g_callVi (pc := 414) [.int 6, .int 2] [] cx lk_L_54 vw_X8 (LTramWires_o h1) (by decide) (c_X8_refusal h1 hc2) dL_known_414 (Nat.le_of_ble_eq_true rfl) ?_
  refine g_if_ne (pc := 417) (tgt := 524) cx dL_known_417 rfl hf (fun hf => ?_) (fun hf => ?_)
  · exact w_L_known_420 cx en h1 hf
  · refine g_sub [] [] rfl ?_
    exact w_L_known_524 cx en h1 hf
set_option maxHeartbeats 4000000 in
set_option maxRecDepth 100000 in
theorem w_L_known_399 {l : Launch} {w : Wp} {L : Ly} {E : Cx} {X : Nat} {R0 : Int32 × Mm} (cx : Ok w L E RL cL_known 2 8) (en : EnB E R0) (h1 : LTramWires w L X) {M : Mm} (hf : b_L_known_399 X M = some R0) : G l w L E M [(0, .ref X)] 399 [] := by
  unfold b_L_known_399 at hf
  refine g_aload_n (pc := 399) cx dL_known_399 rfl 0 rfl ?_
  refine g_iconst (pc := 400) (v := 1) cx dL_known_400 (by decide) ?_
  refine g_iconst (pc := 401) (v := 2) cx dL_known_401 (by decide) ?_
  obtain ⟨q3, M1, hc2, hf⟩ := obn_some2 hf
  refine g_callVi (pc := 402) [.int 1, .int 2] [] cx lk_L_54 vw_X8 (LTramWires_o h1) (by decide) (c_X8_refusal h1 hc2) dL_known_402 (Nat.le_of_ble_eq_true rfl) ?_
  refine g_bipush (pc := 405) (v := 22) cx dL_known_405 (by decide) ?_
  refine g_icmp_ne (pc := 407) (tgt := 524) cx dL_known_407 rfl hf (fun hf => ?_) (fun hf => ?_)
  · exact w_L_known_410 cx en h1 hf
  · refine g_sub [] [] rfl ?_
    exact w_L_known_524 cx en h1 hf
set_option maxHeartbeats 4000000 in
set_option maxRecDepth 100000 in
theorem w_L_known_389 {l : Launch} {w : Wp} {L : Ly} {E : Cx} {X : Nat} {R0 : Int32 × Mm} (cx : Ok w L E RL cL_known 2 8) (en : EnB E R0) (h1 : LTramWires w L X) {M : Mm} (hf : b_L_known_389 X M = some R0) : G l w L E M [(0, .ref X)] 389 [] := by
  unfold b_L_known_389 at hf
  refine g_aload_n (pc := 389) cx dL_known_389 rfl 0 rfl ?_
  refine g_iconst (pc := 390) (v := 1) cx dL_known_390 (by decide) ?_
  refine g_iconst (pc := 391) (v := 5) cx dL_known_391 (by decide) ?_
  obtain ⟨q3, M1, hc2, hf⟩ := obn_some2 hf
  refine g_callVi (pc := 392) [.int 1, .int 5] [] cx lk_L_29 vw_X8 (LTramWires_o h1) (by decide) (c_X8_isolatorOf h1 hc2) dL_known_392 (Nat.le_of_ble_eq_true rfl) ?_
  refine g_iconst (pc := 395) (v := 1) cx dL_known_395 (by decide) ?_
  refine g_icmp_ne (pc := 396) (tgt := 524) cx dL_known_396 rfl hf (fun hf => ?_) (fun hf => ?_)
  · exact w_L_known_399 cx en h1 hf
  · refine g_sub [] [] rfl ?_
    exact w_L_known_524 cx en h1 hf
set_option maxHeartbeats 4000000 in
set_option maxRecDepth 100000 in
theorem w_L_known_380 {l : Launch} {w : Wp} {L : Ly} {E : Cx} {X : Nat} {R0 : Int32 × Mm} (cx : Ok w L E RL cL_known 2 8) (en : EnB E R0) (h1 : LTramWires w L X) {M : Mm} (hf : b_L_known_380 X M = some R0) : G l w L E M [(0, .ref X)] 380 [] := by
  unfold b_L_known_380 at hf
  refine g_aload_n (pc := 380) cx dL_known_380 rfl 0 rfl ?_
  refine g_iconst (pc := 381) (v := 1) cx dL_known_381 (by decide) ?_
  refine g_iconst (pc := 382) (v := 3) cx dL_known_382 (by decide) ?_
  obtain ⟨q3, M1, hc2, hf⟩ := obn_some2 hf
  refine g_callVi (pc := 383) [.int 1, .int 3] [] cx lk_L_29 vw_X8 (LTramWires_o h1) (by decide) (c_X8_isolatorOf h1 hc2) dL_known_383 (Nat.le_of_ble_eq_true rfl) ?_
  refine g_if_ne (pc := 386) (tgt := 524) cx dL_known_386 rfl hf (fun hf => ?_) (fun hf => ?_)
  · exact w_L_known_389 cx en h1 hf
  · refine g_sub [] [] rfl ?_
    exact w_L_known_524 cx en h1 hf
set_option maxHeartbeats 4000000 in
set_option maxRecDepth 100000 in
theorem w_L_known_371 {l : Launch} {w : Wp} {L : Ly} {E : Cx} {X : Nat} {R0 : Int32 × Mm} (cx : Ok w L E RL cL_known 2 8) (en : EnB E R0) (h1 : LTramWires w L X) {M : Mm} (hf : b_L_known_371 X M = some R0) : G l w L E M [(0, .ref X)] 371 [] := by
  unfold b_L_known_371 at hf
  refine g_aload_n (pc := 371) cx dL_known_371 rfl 0 rfl ?_
  refine g_iconst (pc := 372) (v := 2) cx dL_known_372 (by decide) ?_
  refine g_iconst (pc := 373) (v := 3) cx dL_known_373 (by decide) ?_
  obtain ⟨q3, M1, hc2, hf⟩ := obn_some2 hf
  refine g_callVi (pc := 374) [.int 2, .int 3] [] cx lk_L_25 vw_X8 (LTramWires_o h1) (by decide) (c_X8_sectionOf h1 hc2) dL_known_374 (Nat.le_of_ble_eq_true rfl) ?_
  refine g_if_ne (pc := 377) (tgt := 524) cx dL_known_377 rfl hf (fun hf => ?_) (fun hf => ?_)
  · exact w_L_known_380 cx en h1 hf
  · refine g_sub [] [] rfl ?_
    exact w_L_known_524 cx en h1 hf
set_option maxHeartbeats 4000000 in
set_option maxRecDepth 100000 in
theorem w_L_known_362 {l : Launch} {w : Wp} {L : Ly} {E : Cx} {X : Nat} {R0 : Int32 × Mm} (cx : Ok w L E RL cL_known 2 8) (en : EnB E R0) (h1 : LTramWires w L X) {M : Mm} (hf : b_L_known_362 X M = some R0) : G l w L E M [(0, .ref X)] 362 [] := by
  unfold b_L_known_362 at hf
  refine g_aload_n (pc := 362) cx dL_known_362 rfl 0 rfl ?_
  refine g_iconst (pc := 363) (v := 2) cx dL_known_363 (by decide) ?_
  refine g_iconst (pc := 364) (v := 2) cx dL_known_364 (by decide) ?_
  obtain ⟨q3, M1, hc2, hf⟩ := obn_some2 hf
  refine g_callVi (pc := 365) [.int 2, .int 2] [] cx lk_L_25 vw_X8 (LTramWires_o h1) (by decide) (c_X8_sectionOf h1 hc2) dL_known_365 (Nat.le_of_ble_eq_true rfl) ?_
  refine g_if_ne (pc := 368) (tgt := 524) cx dL_known_368 rfl hf (fun hf => ?_) (fun hf => ?_)
  · exact w_L_known_371 cx en h1 hf
  · refine g_sub [] [] rfl ?_
    exact w_L_known_524 cx en h1 hf
set_option maxHeartbeats 4000000 in
set_option maxRecDepth 100000 in
theorem w_L_known_352 {l : Launch} {w : Wp} {L : Ly} {E : Cx} {X : Nat} {R0 : Int32 × Mm} (cx : Ok w L E RL cL_known 2 8) (en : EnB E R0) (h1 : LTramWires w L X) {M : Mm} (hf : b_L_known_352 X M = some R0) : G l w L E M [(0, .ref X)] 352 [] := by
  unfold b_L_known_352 at hf
  refine g_aload_n (pc := 352) cx dL_known_352 rfl 0 rfl ?_
  refine g_iconst (pc := 353) (v := 2) cx dL_known_353 (by decide) ?_
  refine g_iconst (pc := 354) (v := 1) cx dL_known_354 (by decide) ?_
  obtain ⟨q3, M1, hc2, hf⟩ := obn_some2 hf
  refine g_callVi (pc := 355) [.int 2, .int 1] [] cx lk_L_57 vw_X8 (LTramWires_o h1) (by decide) (c_X8_step h1 hc2) dL_known_355 (Nat.le_of_ble_eq_true rfl) ?_
  refine g_iconst (pc := 358) (v := 2) cx dL_known_358 (by decide) ?_
  refine g_icmp_ne (pc := 359) (tgt := 524) cx dL_known_359 rfl hf (fun hf => ?_) (fun hf => ?_)
  · exact w_L_known_362 cx en h1 hf
  · refine g_sub [] [] rfl ?_
    exact w_L_known_524 cx en h1 hf
set_option maxHeartbeats 4000000 in
set_option maxRecDepth 100000 in
theorem w_L_known_341 {l : Launch} {w : Wp} {L : Ly} {E : Cx} {X : Nat} {R0 : Int32 × Mm} (cx : Ok w L E RL cL_known 2 8) (en : EnB E R0) (h1 : LTramWires w L X) {M : Mm} (hf : b_L_known_341 X M = some R0) : G l w L E M [(0, .ref X)] 341 [] := by
  unfold b_L_known_341 at hf
  refine g_aload_n (pc := 341) cx dL_known_341 rfl 0 rfl ?_
  refine g_iconst (pc := 342) (v := 0) cx dL_known_342 (by decide) ?_
  refine g_iconst (pc := 343) (v := 2) cx dL_known_343 (by decide) ?_
  obtain ⟨q3, M1, hc2, hf⟩ := obn_some2 hf
  refine g_callVi (pc := 344) [.int 0, .int 2] [] cx lk_L_54 vw_X8 (LTramWires_o h1) (by decide) (c_X8_refusal h1 hc2) dL_known_344 (Nat.le_of_ble_eq_true rfl) ?_
  refine g_bipush (pc := 347) (v := 11) cx dL_known_347 (by decide) ?_
  refine g_icmp_ne (pc := 349) (tgt := 524) cx dL_known_349 rfl hf (fun hf => ?_) (fun hf => ?_)
  · exact w_L_known_352 cx en h1 hf
  · refine g_sub [] [] rfl ?_
    exact w_L_known_524 cx en h1 hf
set_option maxHeartbeats 4000000 in
set_option maxRecDepth 100000 in
theorem w_L_known_330 {l : Launch} {w : Wp} {L : Ly} {E : Cx} {X : Nat} {R0 : Int32 × Mm} (cx : Ok w L E RL cL_known 2 8) (en : EnB E R0) (h1 : LTramWires w L X) {M : Mm} (hf : b_L_known_330 X M = some R0) : G l w L E M [(0, .ref X)] 330 [] := by
  unfold b_L_known_330 at hf
  refine g_aload_n (pc := 330) cx dL_known_330 rfl 0 rfl ?_
  refine g_iconst (pc := 331) (v := 0) cx dL_known_331 (by decide) ?_
  refine g_iconst (pc := 332) (v := 1) cx dL_known_332 (by decide) ?_
  obtain ⟨q3, M1, hc2, hf⟩ := obn_some2 hf
  refine g_callVi (pc := 333) [.int 0, .int 1] [] cx lk_L_54 vw_X8 (LTramWires_o h1) (by decide) (c_X8_refusal h1 hc2) dL_known_333 (Nat.le_of_ble_eq_true rfl) ?_
  refine g_bipush (pc := 336) (v := 12) cx dL_known_336 (by decide) ?_
  refine g_icmp_ne (pc := 338) (tgt := 524) cx dL_known_338 rfl hf (fun hf => ?_) (fun hf => ?_)
  · exact w_L_known_341 cx en h1 hf
  · refine g_sub [] [] rfl ?_
    exact w_L_known_524 cx en h1 hf
set_option maxHeartbeats 4000000 in
set_option maxRecDepth 100000 in
theorem w_L_known_320 {l : Launch} {w : Wp} {L : Ly} {E : Cx} {X : Nat} {R0 : Int32 × Mm} (cx : Ok w L E RL cL_known 2 8) (en : EnB E R0) (h1 : LTramWires w L X) {M : Mm} (hf : b_L_known_320 X M = some R0) : G l w L E M [(0, .ref X)] 320 [] := by
  unfold b_L_known_320 at hf
  refine g_aload_n (pc := 320) cx dL_known_320 rfl 0 rfl ?_
  refine g_bipush (pc := 321) (v := 9) cx dL_known_321 (by decide) ?_
  obtain ⟨q3, M1, hc2, hf⟩ := obn_some2 hf
  refine g_callVi (pc := 323) [.int 9] [] cx lk_L_71 vw_X8 (LTramWires_o h1) (by decide) (c_X8_pool h1 hc2) dL_known_323 (Nat.le_of_ble_eq_true rfl) ?_
  refine g_iconst (pc := 326) (v := 4) cx dL_known_326 (by decide) ?_
  refine g_icmp_ne (pc := 327) (tgt := 524) cx dL_known_327 rfl hf (fun hf => ?_) (fun hf => ?_)
  · exact w_L_known_330 cx en h1 hf
  · refine g_sub [] [] rfl ?_
    exact w_L_known_524 cx en h1 hf
set_option maxHeartbeats 4000000 in
set_option maxRecDepth 100000 in
theorem w_L_known_310 {l : Launch} {w : Wp} {L : Ly} {E : Cx} {X : Nat} {R0 : Int32 × Mm} (cx : Ok w L E RL cL_known 2 8) (en : EnB E R0) (h1 : LTramWires w L X) {M : Mm} (hf : b_L_known_310 X M = some R0) : G l w L E M [(0, .ref X)] 310 [] := by
  unfold b_L_known_310 at hf
  refine g_aload_n (pc := 310) cx dL_known_310 rfl 0 rfl ?_
  refine g_iconst (pc := 311) (v := 4) cx dL_known_311 (by decide) ?_
  obtain ⟨q3, M1, hc2, hf⟩ := obn_some2 hf
  refine g_callVi (pc := 312) [.int 4] [] cx lk_L_71 vw_X8 (LTramWires_o h1) (by decide) (c_X8_pool h1 hc2) dL_known_312 (Nat.le_of_ble_eq_true rfl) ?_
  refine g_bipush (pc := 315) (v := (-2)) cx dL_known_315 (by decide) ?_
  refine g_icmp_ne (pc := 317) (tgt := 524) cx dL_known_317 rfl hf (fun hf => ?_) (fun hf => ?_)
  · exact w_L_known_320 cx en h1 hf
  · refine g_sub [] [] rfl ?_
    exact w_L_known_524 cx en h1 hf
set_option maxHeartbeats 4000000 in
set_option maxRecDepth 100000 in
theorem w_L_known_300 {l : Launch} {w : Wp} {L : Ly} {E : Cx} {X : Nat} {R0 : Int32 × Mm} (cx : Ok w L E RL cL_known 2 8) (en : EnB E R0) (h1 : LTramWires w L X) {M : Mm} (hf : b_L_known_300 X M = some R0) : G l w L E M [(0, .ref X)] 300 [] := by
  unfold b_L_known_300 at hf
  refine g_aload_n (pc := 300) cx dL_known_300 rfl 0 rfl ?_
  refine g_iconst (pc := 301) (v := 3) cx dL_known_301 (by decide) ?_
  obtain ⟨q3, M1, hc2, hf⟩ := obn_some2 hf
  refine g_callVi (pc := 302) [.int 3] [] cx lk_L_13 vw_X8 (LTramWires_o h1) (by decide) (c_X8_count h1 hc2) dL_known_302 (Nat.le_of_ble_eq_true rfl) ?_
  refine g_bipush (pc := 305) (v := 7) cx dL_known_305 (by decide) ?_
  refine g_icmp_ne (pc := 307) (tgt := 524) cx dL_known_307 rfl hf (fun hf => ?_) (fun hf => ?_)
  · exact w_L_known_310 cx en h1 hf
  · refine g_sub [] [] rfl ?_
    exact w_L_known_524 cx en h1 hf
set_option maxHeartbeats 4000000 in
set_option maxRecDepth 100000 in
theorem w_L_known_288 {l : Launch} {w : Wp} {L : Ly} {E : Cx} {X : Nat} {R0 : Int32 × Mm} (cx : Ok w L E RL cL_known 2 8) (en : EnB E R0) (h1 : LTramWires w L X) {M : Mm} (hf : b_L_known_288 X M = some R0) : G l w L E M [] 288 [] := by
  unfold b_L_known_288 at hf
  refine g_iconst (pc := 288) (v := 0) cx dL_known_288 (by decide) ?_
  exact g_tret (pc := 289) cx en dL_known_289 hf
set_option maxHeartbeats 4000000 in
set_option maxRecDepth 100000 in
theorem w_L_known_277 {l : Launch} {w : Wp} {L : Ly} {E : Cx} {X : Nat} {R0 : Int32 × Mm} (cx : Ok w L E RL cL_known 2 8) (en : EnB E R0) (h1 : LTramWires w L X) {M : Mm} (hf : b_L_known_277 X M = some R0) : G l w L E M [(0, .ref X)] 277 [] := by
  unfold b_L_known_277 at hf
  refine g_aload_n (pc := 277) cx dL_known_277 rfl 0 rfl ?_
  refine g_iconst (pc := 278) (v := 2) cx dL_known_278 (by decide) ?_
  refine g_iconst (pc := 279) (v := 1) cx dL_known_279 (by decide) ?_
  obtain ⟨q3, M1, hc2, hf⟩ := obn_some2 hf
  refine g_callVi (pc := 280) [.int 2, .int 1] [] cx lk_L_57 vw_X8 (LTramWires_o h1) (by decide) (c_X8_step h1 hc2) dL_known_280 (Nat.le_of_ble_eq_true rfl) ?_
  refine g_bipush (pc := 283) (v := (-2)) cx dL_known_283 (by decide) ?_
  refine g_icmp_eq (pc := 285) (tgt := 290) cx dL_known_285 rfl hf (fun hf => ?_) (fun hf => ?_)
  · refine g_aload_n (pc := 290) cx dL_known_290 rfl 0 rfl ?_
    refine g_iconst (pc := 291) (v := 0) cx dL_known_291 (by decide) ?_
    refine g_iconst (pc := 292) (v := 2) cx dL_known_292 (by decide) ?_
    obtain ⟨q6, M4, hc5, hf⟩ := obn_some2 hf
    refine g_callVi (pc := 293) [.int 0, .int 2] [] cx lk_L_57 vw_X8 (LTramWires_o h1) (by decide) (c_X8_step h1 hc5) dL_known_293 (Nat.le_of_ble_eq_true rfl) ?_
    refine g_iconst (pc := 296) (v := 3) cx dL_known_296 (by decide) ?_
    refine g_icmp_ne (pc := 297) (tgt := 524) cx dL_known_297 rfl hf (fun hf => ?_) (fun hf => ?_)
    · exact w_L_known_300 cx en h1 hf
    · refine g_sub [] [] rfl ?_
      exact w_L_known_524 cx en h1 hf
  · refine g_sub [] [] rfl ?_
    exact w_L_known_288 cx en h1 hf
set_option maxHeartbeats 4000000 in
set_option maxRecDepth 100000 in
theorem w_L_known_265 {l : Launch} {w : Wp} {L : Ly} {E : Cx} {X : Nat} {R0 : Int32 × Mm} (cx : Ok w L E RL cL_known 2 8) (en : EnB E R0) (h1 : LTramWires w L X) {M : Mm} (hf : b_L_known_265 X M = some R0) : G l w L E M [(0, .ref X)] 265 [] := by
  unfold b_L_known_265 at hf
  refine g_aload_n (pc := 265) cx dL_known_265 rfl 0 rfl ?_
  refine g_bipush (pc := 266) (v := 6) cx dL_known_266 (by decide) ?_
  refine g_iconst (pc := 268) (v := 2) cx dL_known_268 (by decide) ?_
  obtain ⟨q3, M1, hc2, hf⟩ := obn_some2 hf
  refine g_callVi (pc := 269) [.int 6, .int 2] [] cx lk_L_54 vw_X8 (LTramWires_o h1) (by decide) (c_X8_refusal h1 hc2) dL_known_269 (Nat.le_of_ble_eq_true rfl) ?_
  refine g_bipush (pc := 272) (v := 72) cx dL_known_272 (by decide) ?_
  refine g_icmp_ne (pc := 274) (tgt := 288) cx dL_known_274 rfl hf (fun hf => ?_) (fun hf => ?_)
  · exact w_L_known_277 cx en h1 hf
  · refine g_sub [] [] rfl ?_
    exact w_L_known_288 cx en h1 hf
set_option maxHeartbeats 4000000 in
set_option maxRecDepth 100000 in
theorem w_L_known_254 {l : Launch} {w : Wp} {L : Ly} {E : Cx} {X : Nat} {R0 : Int32 × Mm} (cx : Ok w L E RL cL_known 2 8) (en : EnB E R0) (h1 : LTramWires w L X) {M : Mm} (hf : b_L_known_254 X M = some R0) : G l w L E M [(0, .ref X)] 254 [] := by
  unfold b_L_known_254 at hf
  refine g_aload_n (pc := 254) cx dL_known_254 rfl 0 rfl ?_
  refine g_iconst (pc := 255) (v := 4) cx dL_known_255 (by decide) ?_
  refine g_iconst (pc := 256) (v := 0) cx dL_known_256 (by decide) ?_
  obtain ⟨q3, M1, hc2, hf⟩ := obn_some2 hf
  refine g_callVi (pc := 257) [.int 4, .int 0] [] cx lk_L_54 vw_X8 (LTramWires_o h1) (by decide) (c_X8_refusal h1 hc2) dL_known_257 (Nat.le_of_ble_eq_true rfl) ?_
  refine g_bipush (pc := 260) (v := 52) cx dL_known_260 (by decide) ?_
  refine g_icmp_ne (pc := 262) (tgt := 288) cx dL_known_262 rfl hf (fun hf => ?_) (fun hf => ?_)
  · exact w_L_known_265 cx en h1 hf
  · refine g_sub [] [] rfl ?_
    exact w_L_known_288 cx en h1 hf
set_option maxHeartbeats 4000000 in
set_option maxRecDepth 100000 in
theorem w_L_known_243 {l : Launch} {w : Wp} {L : Ly} {E : Cx} {X : Nat} {R0 : Int32 × Mm} (cx : Ok w L E RL cL_known 2 8) (en : EnB E R0) (h1 : LTramWires w L X) {M : Mm} (hf : b_L_known_243 X M = some R0) : G l w L E M [(0, .ref X)] 243 [] := by
  unfold b_L_known_243 at hf
  refine g_aload_n (pc := 243) cx dL_known_243 rfl 0 rfl ?_
  refine g_iconst (pc := 244) (v := 2) cx dL_known_244 (by decide) ?_
  refine g_iconst (pc := 245) (v := 1) cx dL_known_245 (by decide) ?_
  obtain ⟨q3, M1, hc2, hf⟩ := obn_some2 hf
  refine g_callVi (pc := 246) [.int 2, .int 1] [] cx lk_L_54 vw_X8 (LTramWires_o h1) (by decide) (c_X8_refusal h1 hc2) dL_known_246 (Nat.le_of_ble_eq_true rfl) ?_
  refine g_bipush (pc := 249) (v := 32) cx dL_known_249 (by decide) ?_
  refine g_icmp_ne (pc := 251) (tgt := 288) cx dL_known_251 rfl hf (fun hf => ?_) (fun hf => ?_)
  · exact w_L_known_254 cx en h1 hf
  · refine g_sub [] [] rfl ?_
    exact w_L_known_288 cx en h1 hf
set_option maxHeartbeats 4000000 in
set_option maxRecDepth 100000 in
theorem w_L_known_234 {l : Launch} {w : Wp} {L : Ly} {E : Cx} {X : Nat} {R0 : Int32 × Mm} (cx : Ok w L E RL cL_known 2 8) (en : EnB E R0) (h1 : LTramWires w L X) {M : Mm} (hf : b_L_known_234 X M = some R0) : G l w L E M [(0, .ref X)] 234 [] := by
  unfold b_L_known_234 at hf
  refine g_aload_n (pc := 234) cx dL_known_234 rfl 0 rfl ?_
  refine g_iconst (pc := 235) (v := 1) cx dL_known_235 (by decide) ?_
  obtain ⟨q3, M1, hc2, hf⟩ := obn_some2 hf
  refine g_callVi (pc := 236) [.int 1] [] cx lk_L_38 vw_X8 (LTramWires_o h1) (by decide) (c_X8_canPlan h1 hc2) dL_known_236 (Nat.le_of_ble_eq_true rfl) ?_
  refine g_iconst (pc := 239) (v := 1) cx dL_known_239 (by decide) ?_
  refine g_icmp_ne (pc := 240) (tgt := 288) cx dL_known_240 rfl hf (fun hf => ?_) (fun hf => ?_)
  · exact w_L_known_243 cx en h1 hf
  · refine g_sub [] [] rfl ?_
    exact w_L_known_288 cx en h1 hf
set_option maxHeartbeats 4000000 in
set_option maxRecDepth 100000 in
theorem w_L_known_225 {l : Launch} {w : Wp} {L : Ly} {E : Cx} {X : Nat} {R0 : Int32 × Mm} (cx : Ok w L E RL cL_known 2 8) (en : EnB E R0) (h1 : LTramWires w L X) {M : Mm} (hf : b_L_known_225 X M = some R0) : G l w L E M [(0, .ref X)] 225 [] := by
  unfold b_L_known_225 at hf
  refine g_aload_n (pc := 225) cx dL_known_225 rfl 0 rfl ?_
  refine g_iconst (pc := 226) (v := 0) cx dL_known_226 (by decide) ?_
  obtain ⟨q3, M1, hc2, hf⟩ := obn_some2 hf
  refine g_callVi (pc := 227) [.int 0] [] cx lk_L_38 vw_X8 (LTramWires_o h1) (by decide) (c_X8_canPlan h1 hc2) dL_known_227 (Nat.le_of_ble_eq_true rfl) ?_
  refine g_iconst (pc := 230) (v := 1) cx dL_known_230 (by decide) ?_
  refine g_icmp_ne (pc := 231) (tgt := 288) cx dL_known_231 rfl hf (fun hf => ?_) (fun hf => ?_)
  · exact w_L_known_234 cx en h1 hf
  · refine g_sub [] [] rfl ?_
    exact w_L_known_288 cx en h1 hf
set_option maxHeartbeats 4000000 in
set_option maxRecDepth 100000 in
theorem w_L_known_213 {l : Launch} {w : Wp} {L : Ly} {E : Cx} {X : Nat} {R0 : Int32 × Mm} (cx : Ok w L E RL cL_known 2 8) (en : EnB E R0) (h1 : LTramWires w L X) {M : Mm} (hf : b_L_known_213 X M = some R0) : G l w L E M [(0, .ref X)] 213 [] := by
  unfold b_L_known_213 at hf
  refine g_aload_n (pc := 213) cx dL_known_213 rfl 0 rfl ?_
  refine g_iconst (pc := 214) (v := 0) cx dL_known_214 (by decide) ?_
  refine g_iconst (pc := 215) (v := 3) cx dL_known_215 (by decide) ?_
  obtain ⟨q3, M1, hc2, hf⟩ := obn_some2 hf
  refine g_callVi (pc := 216) [.int 0, .int 3] [] cx lk_L_35 vw_X8 (LTramWires_o h1) (by decide) (c_X8_plan h1 hc2) dL_known_216 (Nat.le_of_ble_eq_true rfl) ?_
  refine g_sipush (pc := 219) (v := 600) cx dL_known_219 (by decide) ?_
  refine g_icmp_ne (pc := 222) (tgt := 288) cx dL_known_222 rfl hf (fun hf => ?_) (fun hf => ?_)
  · exact w_L_known_225 cx en h1 hf
  · refine g_sub [] [] rfl ?_
    exact w_L_known_288 cx en h1 hf
set_option maxHeartbeats 4000000 in
set_option maxRecDepth 100000 in
theorem w_L_known_201 {l : Launch} {w : Wp} {L : Ly} {E : Cx} {X : Nat} {R0 : Int32 × Mm} (cx : Ok w L E RL cL_known 2 8) (en : EnB E R0) (h1 : LTramWires w L X) {M : Mm} (hf : b_L_known_201 X M = some R0) : G l w L E M [(0, .ref X)] 201 [] := by
  unfold b_L_known_201 at hf
  refine g_aload_n (pc := 201) cx dL_known_201 rfl 0 rfl ?_
  refine g_iconst (pc := 202) (v := 0) cx dL_known_202 (by decide) ?_
  refine g_iconst (pc := 203) (v := 2) cx dL_known_203 (by decide) ?_
  obtain ⟨q3, M1, hc2, hf⟩ := obn_some2 hf
  refine g_callVi (pc := 204) [.int 0, .int 2] [] cx lk_L_35 vw_X8 (LTramWires_o h1) (by decide) (c_X8_plan h1 hc2) dL_known_204 (Nat.le_of_ble_eq_true rfl) ?_
  refine g_sipush (pc := 207) (v := 200) cx dL_known_207 (by decide) ?_
  refine g_icmp_ne (pc := 210) (tgt := 288) cx dL_known_210 rfl hf (fun hf => ?_) (fun hf => ?_)
  · exact w_L_known_213 cx en h1 hf
  · refine g_sub [] [] rfl ?_
    exact w_L_known_288 cx en h1 hf
set_option maxHeartbeats 4000000 in
set_option maxRecDepth 100000 in
theorem w_L_known_189 {l : Launch} {w : Wp} {L : Ly} {E : Cx} {X : Nat} {R0 : Int32 × Mm} (cx : Ok w L E RL cL_known 2 8) (en : EnB E R0) (h1 : LTramWires w L X) {M : Mm} (hf : b_L_known_189 X M = some R0) : G l w L E M [(0, .ref X)] 189 [] := by
  unfold b_L_known_189 at hf
  refine g_aload_n (pc := 189) cx dL_known_189 rfl 0 rfl ?_
  refine g_iconst (pc := 190) (v := 0) cx dL_known_190 (by decide) ?_
  refine g_iconst (pc := 191) (v := 1) cx dL_known_191 (by decide) ?_
  obtain ⟨q3, M1, hc2, hf⟩ := obn_some2 hf
  refine g_callVi (pc := 192) [.int 0, .int 1] [] cx lk_L_35 vw_X8 (LTramWires_o h1) (by decide) (c_X8_plan h1 hc2) dL_known_192 (Nat.le_of_ble_eq_true rfl) ?_
  refine g_sipush (pc := 195) (v := 400) cx dL_known_195 (by decide) ?_
  refine g_icmp_ne (pc := 198) (tgt := 288) cx dL_known_198 rfl hf (fun hf => ?_) (fun hf => ?_)
  · exact w_L_known_201 cx en h1 hf
  · refine g_sub [] [] rfl ?_
    exact w_L_known_288 cx en h1 hf
set_option maxHeartbeats 4000000 in
set_option maxRecDepth 100000 in
theorem w_L_known_180 {l : Launch} {w : Wp} {L : Ly} {E : Cx} {X : Nat} {R0 : Int32 × Mm} (cx : Ok w L E RL cL_known 2 8) (en : EnB E R0) (h1 : LTramWires w L X) {M : Mm} (hf : b_L_known_180 X M = some R0) : G l w L E M [(0, .ref X)] 180 [] := by
  unfold b_L_known_180 at hf
  refine g_aload_n (pc := 180) cx dL_known_180 rfl 0 rfl ?_
  refine g_iconst (pc := 181) (v := 2) cx dL_known_181 (by decide) ?_
  obtain ⟨q3, M1, hc2, hf⟩ := obn_some2 hf
  refine g_callVi (pc := 182) [.int 2] [] cx lk_L_38 vw_X8 (LTramWires_o h1) (by decide) (c_X8_canPlan h1 hc2) dL_known_182 (Nat.le_of_ble_eq_true rfl) ?_
  refine g_iconst (pc := 185) (v := 3) cx dL_known_185 (by decide) ?_
  refine g_icmp_ne (pc := 186) (tgt := 288) cx dL_known_186 rfl hf (fun hf => ?_) (fun hf => ?_)
  · exact w_L_known_189 cx en h1 hf
  · refine g_sub [] [] rfl ?_
    exact w_L_known_288 cx en h1 hf
set_option maxHeartbeats 4000000 in
set_option maxRecDepth 100000 in
theorem w_L_known_169 {l : Launch} {w : Wp} {L : Ly} {E : Cx} {X : Nat} {R0 : Int32 × Mm} (cx : Ok w L E RL cL_known 2 8) (en : EnB E R0) (h1 : LTramWires w L X) {M : Mm} (hf : b_L_known_169 X M = some R0) : G l w L E M [(0, .ref X)] 169 [] := by
  unfold b_L_known_169 at hf
  refine g_aload_n (pc := 169) cx dL_known_169 rfl 0 rfl ?_
  refine g_iconst (pc := 170) (v := 2) cx dL_known_170 (by decide) ?_
  refine g_iconst (pc := 171) (v := 3) cx dL_known_171 (by decide) ?_
  obtain ⟨q3, M1, hc2, hf⟩ := obn_some2 hf
  refine g_callVi (pc := 172) [.int 2, .int 3] [] cx lk_L_35 vw_X8 (LTramWires_o h1) (by decide) (c_X8_plan h1 hc2) dL_known_172 (Nat.le_of_ble_eq_true rfl) ?_
  refine g_bipush (pc := 175) (v := (-4)) cx dL_known_175 (by decide) ?_
  refine g_icmp_ne (pc := 177) (tgt := 288) cx dL_known_177 rfl hf (fun hf => ?_) (fun hf => ?_)
  · exact w_L_known_180 cx en h1 hf
  · refine g_sub [] [] rfl ?_
    exact w_L_known_288 cx en h1 hf
set_option maxHeartbeats 4000000 in
set_option maxRecDepth 100000 in
theorem w_L_known_157 {l : Launch} {w : Wp} {L : Ly} {E : Cx} {X : Nat} {R0 : Int32 × Mm} (cx : Ok w L E RL cL_known 2 8) (en : EnB E R0) (h1 : LTramWires w L X) {M : Mm} (hf : b_L_known_157 X M = some R0) : G l w L E M [(0, .ref X)] 157 [] := by
  unfold b_L_known_157 at hf
  refine g_aload_n (pc := 157) cx dL_known_157 rfl 0 rfl ?_
  refine g_iconst (pc := 158) (v := 2) cx dL_known_158 (by decide) ?_
  refine g_iconst (pc := 159) (v := 2) cx dL_known_159 (by decide) ?_
  obtain ⟨q3, M1, hc2, hf⟩ := obn_some2 hf
  refine g_callVi (pc := 160) [.int 2, .int 2] [] cx lk_L_35 vw_X8 (LTramWires_o h1) (by decide) (c_X8_plan h1 hc2) dL_known_160 (Nat.le_of_ble_eq_true rfl) ?_
  refine g_sipush (pc := 163) (v := 602) cx dL_known_163 (by decide) ?_
  refine g_icmp_ne (pc := 166) (tgt := 288) cx dL_known_166 rfl hf (fun hf => ?_) (fun hf => ?_)
  · exact w_L_known_169 cx en h1 hf
  · refine g_sub [] [] rfl ?_
    exact w_L_known_288 cx en h1 hf
set_option maxHeartbeats 4000000 in
set_option maxRecDepth 100000 in
theorem w_L_known_145 {l : Launch} {w : Wp} {L : Ly} {E : Cx} {X : Nat} {R0 : Int32 × Mm} (cx : Ok w L E RL cL_known 2 8) (en : EnB E R0) (h1 : LTramWires w L X) {M : Mm} (hf : b_L_known_145 X M = some R0) : G l w L E M [(0, .ref X)] 145 [] := by
  unfold b_L_known_145 at hf
  refine g_aload_n (pc := 145) cx dL_known_145 rfl 0 rfl ?_
  refine g_iconst (pc := 146) (v := 2) cx dL_known_146 (by decide) ?_
  refine g_iconst (pc := 147) (v := 1) cx dL_known_147 (by decide) ?_
  obtain ⟨q3, M1, hc2, hf⟩ := obn_some2 hf
  refine g_callVi (pc := 148) [.int 2, .int 1] [] cx lk_L_35 vw_X8 (LTramWires_o h1) (by decide) (c_X8_plan h1 hc2) dL_known_148 (Nat.le_of_ble_eq_true rfl) ?_
  refine g_sipush (pc := 151) (v := 201) cx dL_known_151 (by decide) ?_
  refine g_icmp_ne (pc := 154) (tgt := 288) cx dL_known_154 rfl hf (fun hf => ?_) (fun hf => ?_)
  · exact w_L_known_157 cx en h1 hf
  · refine g_sub [] [] rfl ?_
    exact w_L_known_288 cx en h1 hf
set_option maxHeartbeats 4000000 in
set_option maxRecDepth 100000 in
theorem w_L_known_133 {l : Launch} {w : Wp} {L : Ly} {E : Cx} {X : Nat} {R0 : Int32 × Mm} (cx : Ok w L E RL cL_known 2 8) (en : EnB E R0) (h1 : LTramWires w L X) {M : Mm} (hf : b_L_known_133 X M = some R0) : G l w L E M [] 133 [] := by
  unfold b_L_known_133 at hf
  refine g_iconst (pc := 133) (v := 0) cx dL_known_133 (by decide) ?_
  exact g_tret (pc := 134) cx en dL_known_134 hf
set_option maxHeartbeats 4000000 in
set_option maxRecDepth 100000 in
theorem w_L_known_124 {l : Launch} {w : Wp} {L : Ly} {E : Cx} {X : Nat} {R0 : Int32 × Mm} (cx : Ok w L E RL cL_known 2 8) (en : EnB E R0) (h1 : LTramWires w L X) {M : Mm} (hf : b_L_known_124 X M = some R0) : G l w L E M [(0, .ref X)] 124 [] := by
  unfold b_L_known_124 at hf
  refine g_aload_n (pc := 124) cx dL_known_124 rfl 0 rfl ?_
  refine g_iconst (pc := 125) (v := 1) cx dL_known_125 (by decide) ?_
  refine g_iconst (pc := 126) (v := 5) cx dL_known_126 (by decide) ?_
  obtain ⟨q3, M1, hc2, hf⟩ := obn_some2 hf
  refine g_callVi (pc := 127) [.int 1, .int 5] [] cx lk_L_29 vw_X8 (LTramWires_o h1) (by decide) (c_X8_isolatorOf h1 hc2) dL_known_127 (Nat.le_of_ble_eq_true rfl) ?_
  refine g_if_eq (pc := 130) (tgt := 135) cx dL_known_130 rfl hf (fun hf => ?_) (fun hf => ?_)
  · refine g_aload_n (pc := 135) cx dL_known_135 rfl 0 rfl ?_
    refine g_iconst (pc := 136) (v := 2) cx dL_known_136 (by decide) ?_
    refine g_iconst (pc := 137) (v := 0) cx dL_known_137 (by decide) ?_
    obtain ⟨q6, M4, hc5, hf⟩ := obn_some2 hf
    refine g_callVi (pc := 138) [.int 2, .int 0] [] cx lk_L_35 vw_X8 (LTramWires_o h1) (by decide) (c_X8_plan h1 hc5) dL_known_138 (Nat.le_of_ble_eq_true rfl) ?_
    refine g_iconst (pc := 141) (v := 2) cx dL_known_141 (by decide) ?_
    refine g_icmp_ne (pc := 142) (tgt := 288) cx dL_known_142 rfl hf (fun hf => ?_) (fun hf => ?_)
    · exact w_L_known_145 cx en h1 hf
    · refine g_sub [] [] rfl ?_
      exact w_L_known_288 cx en h1 hf
  · refine g_sub [] [] rfl ?_
    exact w_L_known_133 cx en h1 hf
set_option maxHeartbeats 4000000 in
set_option maxRecDepth 100000 in
theorem w_L_known_114 {l : Launch} {w : Wp} {L : Ly} {E : Cx} {X : Nat} {R0 : Int32 × Mm} (cx : Ok w L E RL cL_known 2 8) (en : EnB E R0) (h1 : LTramWires w L X) {M : Mm} (hf : b_L_known_114 X M = some R0) : G l w L E M [(0, .ref X)] 114 [] := by
  unfold b_L_known_114 at hf
  refine g_aload_n (pc := 114) cx dL_known_114 rfl 0 rfl ?_
  refine g_iconst (pc := 115) (v := 1) cx dL_known_115 (by decide) ?_
  refine g_iconst (pc := 116) (v := 4) cx dL_known_116 (by decide) ?_
  obtain ⟨q3, M1, hc2, hf⟩ := obn_some2 hf
  refine g_callVi (pc := 117) [.int 1, .int 4] [] cx lk_L_29 vw_X8 (LTramWires_o h1) (by decide) (c_X8_isolatorOf h1 hc2) dL_known_117 (Nat.le_of_ble_eq_true rfl) ?_
  refine g_iconst (pc := 120) (v := 1) cx dL_known_120 (by decide) ?_
  refine g_icmp_ne (pc := 121) (tgt := 133) cx dL_known_121 rfl hf (fun hf => ?_) (fun hf => ?_)
  · exact w_L_known_124 cx en h1 hf
  · refine g_sub [] [] rfl ?_
    exact w_L_known_133 cx en h1 hf
set_option maxHeartbeats 4000000 in
set_option maxRecDepth 100000 in
theorem w_L_known_104 {l : Launch} {w : Wp} {L : Ly} {E : Cx} {X : Nat} {R0 : Int32 × Mm} (cx : Ok w L E RL cL_known 2 8) (en : EnB E R0) (h1 : LTramWires w L X) {M : Mm} (hf : b_L_known_104 X M = some R0) : G l w L E M [(0, .ref X)] 104 [] := by
  unfold b_L_known_104 at hf
  refine g_aload_n (pc := 104) cx dL_known_104 rfl 0 rfl ?_
  refine g_iconst (pc := 105) (v := 0) cx dL_known_105 (by decide) ?_
  refine g_iconst (pc := 106) (v := 4) cx dL_known_106 (by decide) ?_
  obtain ⟨q3, M1, hc2, hf⟩ := obn_some2 hf
  refine g_callVi (pc := 107) [.int 0, .int 4] [] cx lk_L_29 vw_X8 (LTramWires_o h1) (by decide) (c_X8_isolatorOf h1 hc2) dL_known_107 (Nat.le_of_ble_eq_true rfl) ?_
  refine g_iconst (pc := 110) (v := 2) cx dL_known_110 (by decide) ?_
  refine g_icmp_ne (pc := 111) (tgt := 133) cx dL_known_111 rfl hf (fun hf => ?_) (fun hf => ?_)
  · exact w_L_known_114 cx en h1 hf
  · refine g_sub [] [] rfl ?_
    exact w_L_known_133 cx en h1 hf
set_option maxHeartbeats 4000000 in
set_option maxRecDepth 100000 in
theorem w_L_known_95 {l : Launch} {w : Wp} {L : Ly} {E : Cx} {X : Nat} {R0 : Int32 × Mm} (cx : Ok w L E RL cL_known 2 8) (en : EnB E R0) (h1 : LTramWires w L X) {M : Mm} (hf : b_L_known_95 X M = some R0) : G l w L E M [(0, .ref X)] 95 [] := by
  unfold b_L_known_95 at hf
  refine g_aload_n (pc := 95) cx dL_known_95 rfl 0 rfl ?_
  refine g_iconst (pc := 96) (v := 1) cx dL_known_96 (by decide) ?_
  refine g_iconst (pc := 97) (v := 1) cx dL_known_97 (by decide) ?_
  obtain ⟨q3, M1, hc2, hf⟩ := obn_some2 hf
  refine g_callVi (pc := 98) [.int 1, .int 1] [] cx lk_L_25 vw_X8 (LTramWires_o h1) (by decide) (c_X8_sectionOf h1 hc2) dL_known_98 (Nat.le_of_ble_eq_true rfl) ?_
  refine g_if_ne (pc := 101) (tgt := 133) cx dL_known_101 rfl hf (fun hf => ?_) (fun hf => ?_)
  · exact w_L_known_104 cx en h1 hf
  · refine g_sub [] [] rfl ?_
    exact w_L_known_133 cx en h1 hf
set_option maxHeartbeats 4000000 in
set_option maxRecDepth 100000 in
theorem w_L_known_85 {l : Launch} {w : Wp} {L : Ly} {E : Cx} {X : Nat} {R0 : Int32 × Mm} (cx : Ok w L E RL cL_known 2 8) (en : EnB E R0) (h1 : LTramWires w L X) {M : Mm} (hf : b_L_known_85 X M = some R0) : G l w L E M [(0, .ref X)] 85 [] := by
  unfold b_L_known_85 at hf
  refine g_aload_n (pc := 85) cx dL_known_85 rfl 0 rfl ?_
  refine g_iconst (pc := 86) (v := 0) cx dL_known_86 (by decide) ?_
  refine g_iconst (pc := 87) (v := 1) cx dL_known_87 (by decide) ?_
  obtain ⟨q3, M1, hc2, hf⟩ := obn_some2 hf
  refine g_callVi (pc := 88) [.int 0, .int 1] [] cx lk_L_25 vw_X8 (LTramWires_o h1) (by decide) (c_X8_sectionOf h1 hc2) dL_known_88 (Nat.le_of_ble_eq_true rfl) ?_
  refine g_iconst (pc := 91) (v := 2) cx dL_known_91 (by decide) ?_
  refine g_icmp_ne (pc := 92) (tgt := 133) cx dL_known_92 rfl hf (fun hf => ?_) (fun hf => ?_)
  · exact w_L_known_95 cx en h1 hf
  · refine g_sub [] [] rfl ?_
    exact w_L_known_133 cx en h1 hf
set_option maxHeartbeats 4000000 in
set_option maxRecDepth 100000 in
theorem w_L_known_74 {l : Launch} {w : Wp} {L : Ly} {E : Cx} {X : Nat} {R0 : Int32 × Mm} (cx : Ok w L E RL cL_known 2 8) (en : EnB E R0) (h1 : LTramWires w L X) {M : Mm} (hf : b_L_known_74 X M = some R0) : G l w L E M [(0, .ref X)] 74 [] := by
  unfold b_L_known_74 at hf
  refine g_aload_n (pc := 74) cx dL_known_74 rfl 0 rfl ?_
  refine g_iconst (pc := 75) (v := 1) cx dL_known_75 (by decide) ?_
  refine g_bipush (pc := 76) (v := 9) cx dL_known_76 (by decide) ?_
  obtain ⟨q3, M1, hc2, hf⟩ := obn_some2 hf
  refine g_callVi (pc := 78) [.int 1, .int 9] [] cx lk_L_25 vw_X8 (LTramWires_o h1) (by decide) (c_X8_sectionOf h1 hc2) dL_known_78 (Nat.le_of_ble_eq_true rfl) ?_
  refine g_iconst (pc := 81) (v := 2) cx dL_known_81 (by decide) ?_
  refine g_icmp_ne (pc := 82) (tgt := 133) cx dL_known_82 rfl hf (fun hf => ?_) (fun hf => ?_)
  · exact w_L_known_85 cx en h1 hf
  · refine g_sub [] [] rfl ?_
    exact w_L_known_133 cx en h1 hf
set_option maxHeartbeats 4000000 in
set_option maxRecDepth 100000 in
theorem w_L_known_63 {l : Launch} {w : Wp} {L : Ly} {E : Cx} {X : Nat} {R0 : Int32 × Mm} (cx : Ok w L E RL cL_known 2 8) (en : EnB E R0) (h1 : LTramWires w L X) {M : Mm} (hf : b_L_known_63 X M = some R0) : G l w L E M [(0, .ref X)] 63 [] := by
  unfold b_L_known_63 at hf
  refine g_aload_n (pc := 63) cx dL_known_63 rfl 0 rfl ?_
  refine g_iconst (pc := 64) (v := 2) cx dL_known_64 (by decide) ?_
  refine g_bipush (pc := 65) (v := 8) cx dL_known_65 (by decide) ?_
  obtain ⟨q3, M1, hc2, hf⟩ := obn_some2 hf
  refine g_callVi (pc := 67) [.int 2, .int 8] [] cx lk_L_25 vw_X8 (LTramWires_o h1) (by decide) (c_X8_sectionOf h1 hc2) dL_known_67 (Nat.le_of_ble_eq_true rfl) ?_
  refine g_iconst (pc := 70) (v := 3) cx dL_known_70 (by decide) ?_
  refine g_icmp_ne (pc := 71) (tgt := 133) cx dL_known_71 rfl hf (fun hf => ?_) (fun hf => ?_)
  · exact w_L_known_74 cx en h1 hf
  · refine g_sub [] [] rfl ?_
    exact w_L_known_133 cx en h1 hf
set_option maxHeartbeats 4000000 in
set_option maxRecDepth 100000 in
theorem w_L_known_53 {l : Launch} {w : Wp} {L : Ly} {E : Cx} {X : Nat} {R0 : Int32 × Mm} (cx : Ok w L E RL cL_known 2 8) (en : EnB E R0) (h1 : LTramWires w L X) {M : Mm} (hf : b_L_known_53 X M = some R0) : G l w L E M [(0, .ref X)] 53 [] := by
  unfold b_L_known_53 at hf
  refine g_aload_n (pc := 53) cx dL_known_53 rfl 0 rfl ?_
  refine g_iconst (pc := 54) (v := 2) cx dL_known_54 (by decide) ?_
  refine g_iconst (pc := 55) (v := 3) cx dL_known_55 (by decide) ?_
  obtain ⟨q3, M1, hc2, hf⟩ := obn_some2 hf
  refine g_callVi (pc := 56) [.int 2, .int 3] [] cx lk_L_25 vw_X8 (LTramWires_o h1) (by decide) (c_X8_sectionOf h1 hc2) dL_known_56 (Nat.le_of_ble_eq_true rfl) ?_
  refine g_iconst (pc := 59) (v := 1) cx dL_known_59 (by decide) ?_
  refine g_icmp_ne (pc := 60) (tgt := 133) cx dL_known_60 rfl hf (fun hf => ?_) (fun hf => ?_)
  · exact w_L_known_63 cx en h1 hf
  · refine g_sub [] [] rfl ?_
    exact w_L_known_133 cx en h1 hf
set_option maxHeartbeats 4000000 in
set_option maxRecDepth 100000 in
theorem w_L_known_43 {l : Launch} {w : Wp} {L : Ly} {E : Cx} {X : Nat} {R0 : Int32 × Mm} (cx : Ok w L E RL cL_known 2 8) (en : EnB E R0) (h1 : LTramWires w L X) {M : Mm} (hf : b_L_known_43 X M = some R0) : G l w L E M [(0, .ref X)] 43 [] := by
  unfold b_L_known_43 at hf
  refine g_aload_n (pc := 43) cx dL_known_43 rfl 0 rfl ?_
  refine g_iconst (pc := 44) (v := 2) cx dL_known_44 (by decide) ?_
  refine g_iconst (pc := 45) (v := 2) cx dL_known_45 (by decide) ?_
  obtain ⟨q3, M1, hc2, hf⟩ := obn_some2 hf
  refine g_callVi (pc := 46) [.int 2, .int 2] [] cx lk_L_25 vw_X8 (LTramWires_o h1) (by decide) (c_X8_sectionOf h1 hc2) dL_known_46 (Nat.le_of_ble_eq_true rfl) ?_
  refine g_iconst (pc := 49) (v := 1) cx dL_known_49 (by decide) ?_
  refine g_icmp_ne (pc := 50) (tgt := 133) cx dL_known_50 rfl hf (fun hf => ?_) (fun hf => ?_)
  · exact w_L_known_53 cx en h1 hf
  · refine g_sub [] [] rfl ?_
    exact w_L_known_133 cx en h1 hf
set_option maxHeartbeats 4000000 in
set_option maxRecDepth 100000 in
theorem w_L_known_33 {l : Launch} {w : Wp} {L : Ly} {E : Cx} {X : Nat} {R0 : Int32 × Mm} (cx : Ok w L E RL cL_known 2 8) (en : EnB E R0) (h1 : LTramWires w L X) {M : Mm} (hf : b_L_known_33 X M = some R0) : G l w L E M [(0, .ref X)] 33 [] := by
  unfold b_L_known_33 at hf
  refine g_aload_n (pc := 33) cx dL_known_33 rfl 0 rfl ?_
  refine g_bipush (pc := 34) (v := 13) cx dL_known_34 (by decide) ?_
  obtain ⟨q3, M1, hc2, hf⟩ := obn_some2 hf
  refine g_callVi (pc := 36) [.int 13] [] cx lk_L_13 vw_X8 (LTramWires_o h1) (by decide) (c_X8_count h1 hc2) dL_known_36 (Nat.le_of_ble_eq_true rfl) ?_
  refine g_iconst (pc := 39) (v := 1) cx dL_known_39 (by decide) ?_
  refine g_icmp_ne (pc := 40) (tgt := 133) cx dL_known_40 rfl hf (fun hf => ?_) (fun hf => ?_)
  · exact w_L_known_43 cx en h1 hf
  · refine g_sub [] [] rfl ?_
    exact w_L_known_133 cx en h1 hf
set_option maxHeartbeats 4000000 in
set_option maxRecDepth 100000 in
theorem w_L_known_24 {l : Launch} {w : Wp} {L : Ly} {E : Cx} {X : Nat} {R0 : Int32 × Mm} (cx : Ok w L E RL cL_known 2 8) (en : EnB E R0) (h1 : LTramWires w L X) {M : Mm} (hf : b_L_known_24 X M = some R0) : G l w L E M [(0, .ref X)] 24 [] := by
  unfold b_L_known_24 at hf
  refine g_aload_n (pc := 24) cx dL_known_24 rfl 0 rfl ?_
  refine g_iconst (pc := 25) (v := 4) cx dL_known_25 (by decide) ?_
  obtain ⟨q3, M1, hc2, hf⟩ := obn_some2 hf
  refine g_callVi (pc := 26) [.int 4] [] cx lk_L_13 vw_X8 (LTramWires_o h1) (by decide) (c_X8_count h1 hc2) dL_known_26 (Nat.le_of_ble_eq_true rfl) ?_
  refine g_iconst (pc := 29) (v := 3) cx dL_known_29 (by decide) ?_
  refine g_icmp_ne (pc := 30) (tgt := 133) cx dL_known_30 rfl hf (fun hf => ?_) (fun hf => ?_)
  · exact w_L_known_33 cx en h1 hf
  · refine g_sub [] [] rfl ?_
    exact w_L_known_133 cx en h1 hf
set_option maxHeartbeats 4000000 in
set_option maxRecDepth 100000 in
theorem w_L_known_14 {l : Launch} {w : Wp} {L : Ly} {E : Cx} {X : Nat} {R0 : Int32 × Mm} (cx : Ok w L E RL cL_known 2 8) (en : EnB E R0) (h1 : LTramWires w L X) {M : Mm} (hf : b_L_known_14 X M = some R0) : G l w L E M [(0, .ref X)] 14 [] := by
  unfold b_L_known_14 at hf
  refine g_aload_n (pc := 14) cx dL_known_14 rfl 0 rfl ?_
  refine g_iconst (pc := 15) (v := 3) cx dL_known_15 (by decide) ?_
  obtain ⟨q3, M1, hc2, hf⟩ := obn_some2 hf
  refine g_callVi (pc := 16) [.int 3] [] cx lk_L_13 vw_X8 (LTramWires_o h1) (by decide) (c_X8_count h1 hc2) dL_known_16 (Nat.le_of_ble_eq_true rfl) ?_
  refine g_bipush (pc := 19) (v := 12) cx dL_known_19 (by decide) ?_
  refine g_icmp_ne (pc := 21) (tgt := 133) cx dL_known_21 rfl hf (fun hf => ?_) (fun hf => ?_)
  · exact w_L_known_24 cx en h1 hf
  · refine g_sub [] [] rfl ?_
    exact w_L_known_133 cx en h1 hf
set_option maxHeartbeats 4000000 in
set_option maxRecDepth 100000 in
theorem c_L_known_3 {l : Launch} {w : Wp} {L : Ly} {E : Cx} {X : Nat} {R0 : Int32 × Mm} (cx : Ok w L E RL cL_known 2 8) (en : EnB E R0) (h1 : LTramWires w L X) {M : Mm} (hf : f_L_known_3 X M  = some R0) : G l w L E M [] 3 [.ref X] := by
  unfold f_L_known_3 at hf
  refine g_astore_n (pc := 3) cx [(0, .ref X)] dL_known_3 rfl (by decide) rfl ?_
  refine g_aload_n (pc := 4) cx dL_known_4 rfl 0 rfl ?_
  refine g_iconst (pc := 5) (v := 2) cx dL_known_5 (by decide) ?_
  obtain ⟨q3, M1, hc2, hf⟩ := obn_some2 hf
  refine g_callVi (pc := 6) [.int 2] [] cx lk_L_13 vw_X8 (LTramWires_o h1) (by decide) (c_X8_count h1 hc2) dL_known_6 (Nat.le_of_ble_eq_true rfl) ?_
  refine g_bipush (pc := 9) (v := 12) cx dL_known_9 (by decide) ?_
  refine g_icmp_ne (pc := 11) (tgt := 133) cx dL_known_11 rfl hf (fun hf => ?_) (fun hf => ?_)
  · exact w_L_known_14 cx en h1 hf
  · refine g_sub [] [] rfl ?_
    exact w_L_known_133 cx en h1 hf
