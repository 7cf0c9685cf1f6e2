set_option maxRecDepth 100000 in
theorem tb_cpy1 : Cond.native arraycopyName ∈ TB := tb_m (List.mem_of_getElem? (i := 353) (by decide +kernel)) rfl
set_option maxRecDepth 100000 in
theorem tb_cpy2 : Cond.static arraycopyName ∈ TB := tb_m (List.mem_of_getElem? (i := 352) (by decide +kernel)) rfl
set_option maxRecDepth 100000 in
theorem tb_cpy3 : Cond.initialized "java/lang/System" ∈ TB := tb_m (List.mem_of_getElem? (i := 35) (by decide +kernel)) rfl
set_option maxRecDepth 100000 in
theorem tb_max1 : Cond.static Lib.Math.max.name ∈ TB := tb_m (List.mem_of_getElem? (i := 557) (by decide +kernel)) rfl
set_option maxRecDepth 100000 in
theorem tb_max2 : Cond.initialized "java/lang/Math" ∈ TB := tb_m (List.mem_of_getElem? (i := 36) (by decide +kernel)) rfl
set_option maxRecDepth 100000 in
theorem tb_max3 : Cond.code Lib.Math.max.name Lib.Math.max.code 2 (some .int) ∈ TB := tb_m (List.mem_of_getElem? (i := 558) (by decide +kernel)) rfl
/-- links to a nest mate's private methods -/
def nwL : List Cond := [.methodLinkNest RX8 9 yX7_init "TramWires", .methodLinkNest RX8 25 yX6_init "TramWires", .methodLinkNest RX8 32 yX3_init "TramWires", .methodLinkNest RX8 39 yX4_init "TramWires", .methodLinkNest RX0 17 yX7_init "TramWires", .methodLinkNest RX4 11 yX7_init "TramWires", .methodLinkNest RX6 38 yX8_isOutside "TramWires", .methodLinkNest RX7 11 yX2_init "TramWires", .methodLinkNest RX7 20 yX5_init "TramWires", .methodLinkNest RX7 27 yX1_init "TramWires", .methodLinkNest RX7 53 yX8_isOutside "TramWires"]
def nwM : Cond → Bool
  | .methodLinkNest .. => true
  | _ => false
theorem nw_all : nwL.all nwM = true := by decide +kernel
theorem nw_tab : ∀ q ∈ nwL, q ∈ lw_tbl := by
  intro q hq
  obtain ⟨k, hk⟩ := List.getElem?_of_mem hq
  match k, hk with
  | 0, h => cases h; exact List.mem_of_getElem? (i := 47) (by decide +kernel)
  | 1, h => cases h; exact List.mem_of_getElem? (i := 239) (by decide +kernel)
  | 2, h => cases h; exact List.mem_of_getElem? (i := 267) (by decide +kernel)
  | 3, h => cases h; exact List.mem_of_getElem? (i := 289) (by decide +kernel)
  | 4, h => cases h; exact List.mem_of_getElem? (i := 228) (by decide +kernel)
  | 5, h => cases h; exact List.mem_of_getElem? (i := 294) (by decide +kernel)
  | 6, h => cases h; exact List.mem_of_getElem? (i := 694) (by decide +kernel)
  | 7, h => cases h; exact List.mem_of_getElem? (i := 53) (by decide +kernel)
  | 8, h => cases h; exact List.mem_of_getElem? (i := 103) (by decide +kernel)
  | 9, h => cases h; exact List.mem_of_getElem? (i := 158) (by decide +kernel)
  | 10, h => cases h; exact List.mem_of_getElem? (i := 384) (by decide +kernel)
  | k + 11, h => simp [nwL] at h
