/-! what a step does to a state of the reference -/
def stS (S : Sm) (x p : Nat) : Sm :=
  if x = 2 then upd S (97 + 4 * p + 2) (nI 0) else if x = 3 then upd S (97 + 4 * p + 2) (nI 1)
  else if x = 4 then upd S (7 + 9 * p + 1) (nI 1) else if x = 5 then upd S (7 + 9 * p + 1) (nI 2)
  else if x = 0 then upd S (7 + 9 * p + 2) (nI 1) else if x = 1 then upd S (7 + 9 * p + 2) (nI 0)
  else if x = 6 then upd S (7 + 9 * p + 3) (nI 1) else upd S (7 + 9 * p + 3) (nI 0)
def shS (S : Sm) (q : Nat) : Sm := fun j => if 161 ≤ j ∧ j < 161 + 3 * q then S (j + 3) else S j
def olS (S : Sm) : Sm :=
  if kS S 0 = 2 then upd S (97 + 4 * pS S 0 + 3) (nI 0) else if kS S 0 = 3 then upd S (97 + 4 * pS S 0 + 3) (nI 1)
  else if kS S 0 = 4 then upd S (7 + 9 * pS S 0 + 8) (nI 0) else if kS S 0 = 5 then upd S (7 + 9 * pS S 0 + 8) (nI 1) else S
def fgS (S : Sm) (q : Nat) : Sm := shS (upd (olS S) 5 (nI (q - 1))) (q - 1)
def apS (S : Sm) (q x p : Nat) : Sm := upd (upd (upd (upd (upd S (161 + 3 * q) (nI x)) (161 + 3 * q + 1) (nI p)) (161 + 3 * q + 2) (S 3)) 5 (nI (q + 1))) 4 (S 4 + nI 1)
def mkS (S : Sm) (q x p : Nat) : Sm := if q = 24 then apS (fgS (stS S x p) 24) 23 x p else apS (stS S x p) q x p
def mkq (q : Nat) : Nat := if q = 24 then 24 else q + 1
section MW
variable {a : Nat} {M : Mm} {n k q : Nat}
theorem bS_u {S : Sm} {i j s : Nat} {x : Int32} (h : 7 + 9 * s + j ≠ i) : bS (upd S i x) j s = bS S j s := by unfold bS aO; rw [upd_n h]
theorem fS_u {S : Sm} {i s : Nat} {x : Int32} (h : 7 + 9 * s + 1 ≠ i) : fS (upd S i x) s = fS S s := by unfold fS aO; rw [upd_n h]
theorem uS_u {S : Sm} {i s : Nat} {x : Int32} (h : 97 + 4 * s + 0 ≠ i) : uS (upd S i x) s = uS S s := by unfold uS aI; rw [upd_n h]
theorem vS_u {S : Sm} {i s : Nat} {x : Int32} (h : 97 + 4 * s + 1 ≠ i) : vS (upd S i x) s = vS S s := by unfold vS aI; rw [upd_n h]
theorem cS_u {S : Sm} {i s : Nat} {x : Int32} (h : 97 + 4 * s + 2 ≠ i) : cS (upd S i x) s = cS S s := by unfold cS aI; rw [upd_n h]
theorem wS_u {S : Sm} {i s : Nat} {x : Int32} (h : 97 + 4 * s + 3 ≠ i) : wS (upd S i x) s = wS S s := by unfold wS aI; rw [upd_n h]
theorem kS_u {S : Sm} {i s : Nat} {x : Int32} (h : 161 + 3 * s + 0 ≠ i) : kS (upd S i x) s = kS S s := by unfold kS aL; rw [upd_n h]
theorem pS_u {S : Sm} {i s : Nat} {x : Int32} (h : 161 + 3 * s + 1 ≠ i) : pS (upd S i x) s = pS S s := by unfold pS aL; rw [upd_n h]
theorem aO_u {S : Sm} {i s j : Nat} {x : Int32} (h : 7 + 9 * s + j ≠ i) : aO (upd S i x) s j = aO S s j := by unfold aO; rw [upd_n h]
theorem aI_u {S : Sm} {i s j : Nat} {x : Int32} (h : 97 + 4 * s + j ≠ i) : aI (upd S i x) s j = aI S s j := by unfold aI; rw [upd_n h]
theorem aL_u {S : Sm} {i s j : Nat} {x : Int32} (h : 161 + 3 * s + j ≠ i) : aL (upd S i x) s j = aL S s j := by unfold aL; rw [upd_n h]
/-- a place's new number, in a well formed state -/
theorem Wf.setC {S : Sm} (W : Wf S n k q) {p : Nat} (hp : p < k) (b : Bool) : Wf (upd S (97 + 4 * p + 2) (nI b.toNat)) n k q := by
  obtain ⟨⟨e0, hn, e1, hk, e5, hq⟩, WI, WO, WL⟩ := W
  refine ⟨⟨by rw [upd_n (by omega)]; exact e0, hn, by rw [upd_n (by omega)]; exact e1, hk, by rw [upd_n (by omega)]; exact e5, hq⟩, fun i hi => ?_, fun s hs => ?_, fun j hj => ?_⟩
  · have h := WI i hi
    rw [aI_u (by omega), aI_u (by omega), uS_u (by omega), vS_u (by omega), aI_u (j := 3) (by omega), wS_u (by omega)]
    refine ⟨h.1, h.2.1, ?_, h.2.2.2⟩
    by_cases g : i = p
    · subst g
      unfold cS aI
      rw [upd_at]
      cases b <;> rfl
    · rw [aI_u (by omega), cS_u (by omega)]
      exact h.2.2.1
  · rw [aO_u (by omega), aO_u (by omega), aO_u (by omega), aO_u (by omega), aO_u (by omega), fS_u (by omega), bS_u (by omega), bS_u (by omega), bS_u (by omega), bS_u (by omega)]
    exact WO s hs
  · rw [aL_u (by omega), aL_u (by omega), kS_u (by omega), pS_u (by omega)]
    exact WL j hj
theorem Wf.setW {S : Sm} (W : Wf S n k q) {p : Nat} (hp : p < k) (b : Bool) : Wf (upd S (97 + 4 * p + 3) (nI b.toNat)) n k q := by
  obtain ⟨⟨e0, hn, e1, hk, e5, hq⟩, WI, WO, WL⟩ := W
  refine ⟨⟨by rw [upd_n (by omega)]; exact e0, hn, by rw [upd_n (by omega)]; exact e1, hk, by rw [upd_n (by omega)]; exact e5, hq⟩, fun i hi => ?_, fun s hs => ?_, fun j hj => ?_⟩
  · have h := WI i hi
    rw [aI_u (by omega), aI_u (by omega), uS_u (by omega), vS_u (by omega), aI_u (j := 2) (by omega), cS_u (by omega)]
    refine ⟨h.1, h.2.1, h.2.2.1, ?_⟩
    by_cases g : i = p
    · subst g
      unfold wS aI
      rw [upd_at]
      cases b <;> rfl
    · rw [aI_u (by omega), wS_u (by omega)]
      exact h.2.2.2
  · rw [aO_u (by omega), aO_u (by omega), aO_u (by omega), aO_u (by omega), aO_u (by omega), fS_u (by omega), bS_u (by omega), bS_u (by omega), bS_u (by omega), bS_u (by omega)]
    exact WO s hs
  · rw [aL_u (by omega), aL_u (by omega), kS_u (by omega), pS_u (by omega)]
    exact WL j hj
theorem Wf.setF {S : Sm} (W : Wf S n k q) {p : Nat} (hp : p < n) {x : Nat} (hx : x ≤ 2) : Wf (upd S (7 + 9 * p + 1) (nI x)) n k q := by
  obtain ⟨⟨e0, hn, e1, hk, e5, hq⟩, WI, WO, WL⟩ := W
  refine ⟨⟨by rw [upd_n (by omega)]; exact e0, hn, by rw [upd_n (by omega)]; exact e1, hk, by rw [upd_n (by omega)]; exact e5, hq⟩, fun i hi => ?_, fun s hs => ?_, fun j hj => ?_⟩
  · rw [aI_u (by omega), aI_u (by omega), aI_u (by omega), aI_u (by omega), uS_u (by omega), vS_u (by omega), cS_u (by omega), wS_u (by omega)]
    exact WI i hi
  · have h := WO s hs
    rw [aO_u (j := 2) (by omega), aO_u (j := 3) (by omega), aO_u (j := 4) (by omega), aO_u (j := 8) (by omega), bS_u (by omega), bS_u (by omega), bS_u (by omega), bS_u (by omega)]
    refine ⟨?_, h.2⟩
    by_cases g : s = p
    · subst g
      unfold fS aO
      rw [upd_at, show ix (nI x) = x from nI_clamp (by omega)]
      exact ⟨rfl, hx⟩
    · rw [aO_u (by omega), fS_u (by omega)]
      exact h.1
  · rw [aL_u (by omega), aL_u (by omega), kS_u (by omega), pS_u (by omega)]
    exact WL j hj
/-- any of a section's flags, or a number of its that isn't looked at here -/
theorem Wf.setB {S : Sm} (W : Wf S n k q) {p j : Nat} (hp : p < n) (hj : j < 9) (h1 : j ≠ 1) {y : Int32} (hy : (j = 2 ∨ j = 3 ∨ j = 4 ∨ j = 8) → ∃ b : Bool, y = nI b.toNat) : Wf (upd S (7 + 9 * p + j) y) n k q := by
  obtain ⟨⟨e0, hn, e1, hk, e5, hq⟩, WI, WO, WL⟩ := W
  refine ⟨⟨by rw [upd_n (by omega)]; exact e0, hn, by rw [upd_n (by omega)]; exact e1, hk, by rw [upd_n (by omega)]; exact e5, hq⟩, fun i hi => ?_, fun s hs => ?_, fun t ht => ?_⟩
  · rw [aI_u (by omega), aI_u (by omega), aI_u (by omega), aI_u (by omega), uS_u (by omega), vS_u (by omega), cS_u (by omega), wS_u (by omega)]
    exact WI i hi
  · have h := WO s hs
    have one : ∀ i, (i = 2 ∨ i = 3 ∨ i = 4 ∨ i = 8) → aO S s i = nI (bS S i s).toNat → aO (upd S (7 + 9 * p + j) y) s i = nI (bS (upd S (7 + 9 * p + j) y) i s).toNat := by
      intro i hi ho
      by_cases g : s = p ∧ i = j
      · obtain ⟨g1, g2⟩ := g
        subst g1; subst g2
        obtain ⟨b, rfl⟩ := hy hi
        unfold bS aO
        rw [upd_at]
        cases b <;> rfl
      · rw [aO_u (by omega), bS_u (by omega)]
        exact ho
    rw [aO_u (j := 1) (by omega), fS_u (by omega)]
    exact ⟨h.1, one 2 (by omega) h.2.1, one 3 (by omega) h.2.2.1, one 4 (by omega) h.2.2.2.1, one 8 (by omega) h.2.2.2.2⟩
  · rw [aL_u (by omega), aL_u (by omega), kS_u (by omega), pS_u (by omega)]
    exact WL t ht
/-- pool, time, steps made, late minutes -/
theorem Wf.setG {S : Sm} (W : Wf S n k q) {j : Nat} (hj : j = 2 ∨ j = 3 ∨ j = 4 ∨ j = 6) (y : Int32) : Wf (upd S j y) n k q := by
  obtain ⟨⟨e0, hn, e1, hk, e5, hq⟩, WI, WO, WL⟩ := W
  refine ⟨⟨by rw [upd_n (by omega)]; exact e0, hn, by rw [upd_n (by omega)]; exact e1, hk, by rw [upd_n (by omega)]; exact e5, hq⟩, fun i hi => ?_, fun s hs => ?_, fun t ht => ?_⟩
  · rw [aI_u (by omega), aI_u (by omega), aI_u (by omega), aI_u (by omega), uS_u (by omega), vS_u (by omega), cS_u (by omega), wS_u (by omega)]
    exact WI i hi
  · rw [aO_u (by omega), aO_u (by omega), aO_u (by omega), aO_u (by omega), aO_u (by omega), fS_u (by omega), bS_u (by omega), bS_u (by omega), bS_u (by omega), bS_u (by omega)]
    exact WO s hs
  · rw [aL_u (by omega), aL_u (by omega), kS_u (by omega), pS_u (by omega)]
    exact WL t ht
theorem Wf.st {S : Sm} (W : Wf S n k q) {x p : Nat} (hx : x < 8) (hp : plc n k x p) : Wf (stS S x p) n k q := by
  match x, hx with
  | 0, _ => exact W.setB (by simpa [plc] using hp) (by omega) (by omega) (fun _ => ⟨true, rfl⟩)
  | 1, _ => exact W.setB (by simpa [plc] using hp) (by omega) (by omega) (fun _ => ⟨false, rfl⟩)
  | 2, _ => exact W.setC (by simpa [plc] using hp) false
  | 3, _ => exact W.setC (by simpa [plc] using hp) true
  | 4, _ => exact W.setF (by simpa [plc] using hp) (by omega)
  | 5, _ => exact W.setF (by simpa [plc] using hp) (by omega)
  | 6, _ => exact W.setB (by simpa [plc] using hp) (by omega) (by omega) (fun _ => ⟨true, rfl⟩)
  | 7, _ => exact W.setB (by simpa [plc] using hp) (by omega) (by omega) (fun _ => ⟨false, rfl⟩)
  | x + 8, h => omega
theorem Wf.ol {S : Sm} (W : Wf S n k q) (hq : 0 < q) : Wf (olS S) n k q := by
  have h := (W.2.2.2 0 hq).2.2
  unfold olS
  split
  · rename_i g
    rw [if_pos (Or.inl g)] at h
    exact W.setW h false
  · split
    · rename_i g
      rw [if_pos (Or.inr g)] at h
      exact W.setW h true
    · rename_i g1 g2
      rw [if_neg (by omega)] at h
      split
      · exact W.setB h (by omega) (by omega) (fun _ => ⟨false, rfl⟩)
      · split
        · exact W.setB h (by omega) (by omega) (fun _ => ⟨true, rfl⟩)
        · exact W
theorem sh_O {S : Sm} {q s j : Nat} (h : 7 + 9 * s + j < 161) : aO (shS S q) s j = aO S s j := by unfold aO shS; rw [if_neg (by omega)]
theorem sh_I {S : Sm} {q s j : Nat} (h : 97 + 4 * s + j < 161) : aI (shS S q) s j = aI S s j := by unfold aI shS; rw [if_neg (by omega)]
theorem sh_L {S : Sm} {q s j : Nat} (h : s < q) (hj : j < 3) : aL (shS S q) s j = aL S (s + 1) j := by
  unfold aL shS
  rw [if_pos (by omega)]
  congr 1
  omega
theorem Wf.fg {S : Sm} (W : Wf S n k q) (hq : 0 < q) : Wf (fgS S q) n k (q - 1) := by
  obtain ⟨⟨e0, hn, e1, hk, e5, hq24⟩, WI, WO, WL⟩ := W.ol hq
  unfold fgS
  have hO : ∀ s, s < n → ∀ j, j < 9 → aO (shS (upd (olS S) 5 (nI (q - 1))) (q - 1)) s j = aO (olS S) s j := fun s hs j hj => by rw [sh_O (by omega), aO_u (by omega)]
  have hI : ∀ i, i < k → ∀ j, j < 4 → aI (shS (upd (olS S) 5 (nI (q - 1))) (q - 1)) i j = aI (olS S) i j := fun s hs j hj => by rw [sh_I (by omega), aI_u (by omega)]
  have hL : ∀ i, i < q - 1 → ∀ j, j < 3 → aL (shS (upd (olS S) 5 (nI (q - 1))) (q - 1)) i j = aL (olS S) (i + 1) j := fun s hs j hj => by rw [sh_L hs hj, aL_u (by omega)]
  refine ⟨⟨?_, hn, ?_, hk, ?_, by omega⟩, fun i hi => ?_, fun s hs => ?_, fun j hj => ?_⟩
  · show shS _ _ 0 = _
    rw [shS, if_neg (by omega), upd_n (by omega), e0]
  · rw [shS, if_neg (by omega), upd_n (by omega), e1]
  · rw [shS, if_neg (by omega), upd_at]
  · unfold uS vS cS wS
    rw [hI i hi 0 (by omega), hI i hi 1 (by omega), hI i hi 2 (by omega), hI i hi 3 (by omega)]
    exact WI i hi
  · unfold fS bS
    rw [hO s hs 1 (by omega), hO s hs 2 (by omega), hO s hs 3 (by omega), hO s hs 4 (by omega), hO s hs 8 (by omega)]
    exact WO s hs
  · unfold kS pS
    rw [hL j hj 0 (by omega), hL j hj 1 (by omega)]
    exact WL (j + 1) (by omega)
theorem Wf.ap {S : Sm} (W : Wf S n k q) (hq : q < 24) {x p : Nat} (hx : x < 8) (hp : plc n k x p) : Wf (apS S q x p) n k (q + 1) := by
  obtain ⟨⟨e0, hn, e1, hk, e5, -⟩, WI, WO, WL⟩ := W
  have hp16 : p < 16 := by unfold plc at hp; split at hp <;> omega
  have hO : ∀ s, s < n → ∀ j, j < 9 → aO (apS S q x p) s j = aO S s j := fun s hs j hj => by
    unfold apS
    rw [aO_u (by omega), aO_u (by omega), aO_u (by omega), aO_u (by omega), aO_u (by omega)]
  have hI : ∀ i, i < k → ∀ j, j < 4 → aI (apS S q x p) i j = aI S i j := fun s hs j hj => by
    unfold apS
    rw [aI_u (by omega), aI_u (by omega), aI_u (by omega), aI_u (by omega), aI_u (by omega)]
  have hL : ∀ i, i < q → ∀ j, j < 3 → aL (apS S q x p) i j = aL S i j := fun s hs j hj => by
    unfold apS
    rw [aL_u (by omega), aL_u (by omega), aL_u (by omega), aL_u (by omega), aL_u (by omega)]
  refine ⟨⟨?_, hn, ?_, hk, ?_, by omega⟩, fun i hi => ?_, fun s hs => ?_, fun j hj => ?_⟩
  · unfold apS
    rw [upd_n (by omega), upd_n (by omega), upd_n (by omega), upd_n (by omega), upd_n (by omega), e0]
  · unfold apS
    rw [upd_n (by omega), upd_n (by omega), upd_n (by omega), upd_n (by omega), upd_n (by omega), e1]
  · unfold apS
    rw [upd_n (by omega), upd_at]
  · unfold uS vS cS wS
    rw [hI i hi 0 (by omega), hI i hi 1 (by omega), hI i hi 2 (by omega), hI i hi 3 (by omega)]
    exact WI i hi
  · unfold fS bS
    rw [hO s hs 1 (by omega), hO s hs 2 (by omega), hO s hs 3 (by omega), hO s hs 4 (by omega), hO s hs 8 (by omega)]
    exact WO s hs
  · unfold kS pS
    by_cases g : j < q
    · rw [hL j g 0 (by omega), hL j g 1 (by omega)]
      exact WL j g
    · have g : j = q := by omega
      subst g
      have h0 : aL (apS S j x p) j 0 = nI x := by
        unfold apS
        rw [aL_u (by omega), aL_u (by omega), aL_u (by omega), aL_u (by omega)]
        unfold aL
        rw [Nat.add_zero, upd_at]
      have h1 : aL (apS S j x p) j 1 = nI p := by
        unfold apS
        rw [aL_u (by omega), aL_u (by omega), aL_u (by omega)]
        unfold aL
        rw [upd_at]
      rw [h0, h1, show ix (nI x) = x from nI_clamp (by omega), show ix (nI p) = p from nI_clamp (by omega)]
      exact ⟨⟨rfl, hx⟩, rfl, hp⟩
theorem Wf.mk {S : Sm} (W : Wf S n k q) {x p : Nat} (hx : x < 8) (hp : plc n k x p) : Wf (mkS S q x p) n k (mkq q) := by
  have h := W.st hx hp
  have hq := W.1.2.2.2.2.2
  unfold mkS mkq
  split
  · rename_i g
    subst g
    exact (h.fg (by omega)).ap (by omega) hx hp
  · exact h.ap (by omega) hx hp
/-! .. and that the reference does it -/
theorem m_forgets (W : Wf (M (a + 1)) n k q) (hq : 0 < q) : f_X9_forgets a M = some (nI 0, mrow M (a + 1) (fgS (M (a + 1)) q)) := by
  obtain ⟨⟨e0, hn, e1, hk, e5, hq24⟩, WI, WO, WL⟩ := id W
  obtain ⟨⟨g1, g2⟩, g3, g4⟩ := WL 0 hq
  have g5 : pS (M (a + 1)) 0 < 16 := by split at g4 <;> omega
  -- the shift
  have sh : ∀ S : Sm, S 5 = nI q → b_X9_forgets_70 a (mrow M (a + 1) S) = some (nI 0, mrow M (a + 1) (shS (upd S 5 (nI (q - 1))) (q - 1))) := by
    intro S h5
    have hs : ∀ k' i, i < 3 * (q - 1) → l_X9_forgets_84 a (k' + 1) (mrow M (a + 1) (fun j => if 161 ≤ j ∧ j < 161 + i then upd S 5 (nI (q - 1)) (j + 3) else upd S 5 (nI (q - 1)) j)) (nI (161 + i)) = l_X9_forgets_84 a k' (mrow M (a + 1) (fun j => if 161 ≤ j ∧ j < 161 + (i + 1) then upd S 5 (nI (q - 1)) (j + 3) else upd S 5 (nI (q - 1)) j)) (nI (161 + (i + 1))) := by
      intro k' i hi
      rw [l_X9_forgets_84]
      simp (disch := omega) only [li_0, li_1, li_2, li_3, li_4, li_5, li_6, li_7, li_8, li_9, li_10, li_11, li_12, li_13, li_14, li_15, li_16, li_17, li_18, li_19, li_20, li_21, li_22, li_23, li_24, li_25, li_26, li_27, li_28, li_29, li_30, li_31, li_32, li_33, li_34, li_35, li_36, li_37, li_38, li_39, li_40, li_41, li_42, li_43, li_44, li_45, li_46, li_47, li_48, li_49, li_50, li_51, li_52, li_53, li_54, li_55, li_56, li_57, li_58, li_59, li_60, li_61, li_62, li_63, li_71, li_72, li_73, li_81, li_82, li_97, li_98, li_99, li_100, li_101, li_102, li_105, li_110, li_111, li_116, li_117, li_126, li_161, li_233, li_932, li_1165, li_10000, li_100000, n_lt_t, n_lt_f, n_eq_t, n_eq_f, nI_add, n_sub, n_mul, n_ix, n_ckd, bnd_e, obn_s, zrk_0, zrk_1, zrk_b, zb_0, zb_1, zb_b, if_true, if_false, Bool.toNat_true, Bool.toNat_false, b0, b1, Bool.false_eq_true, Bool.true_eq_false, mrow_n, mrow_at, mst_n, mst_at, upd_n, upd_at, mst_mrow]
      simp (disch := omega) only [li_0, li_1, li_2, li_3, li_4, li_5, li_6, li_7, li_8, li_9, li_10, li_11, li_12, li_13, li_14, li_15, li_16, li_17, li_18, li_19, li_20, li_21, li_22, li_23, li_24, li_25, li_26, li_27, li_28, li_29, li_30, li_31, li_32, li_33, li_34, li_35, li_36, li_37, li_38, li_39, li_40, li_41, li_42, li_43, li_44, li_45, li_46, li_47, li_48, li_49, li_50, li_51, li_52, li_53, li_54, li_55, li_56, li_57, li_58, li_59, li_60, li_61, li_62, li_63, li_71, li_72, li_73, li_81, li_82, li_97, li_98, li_99, li_100, li_101, li_102, li_105, li_110, li_111, li_116, li_117, li_126, li_161, li_233, li_932, li_1165, li_10000, li_100000, n_lt_t, n_lt_f, n_eq_t, n_eq_f, nI_add, n_sub, n_mul, n_ix, n_ckd, bnd_e, obn_s, zrk_0, zrk_1, zrk_b, zb_0, zb_1, zb_b, if_true, if_false, Bool.toNat_true, Bool.toNat_false, b0, b1, Bool.false_eq_true, Bool.true_eq_false, mrow_n, mrow_at, mst_n, mst_at, upd_n, upd_at, mst_mrow, if_neg]
      congr 1
      refine mrow_c _ _ fun j => ?_
      by_cases e : j = 161 + i
      · subst e
        rw [upd_at, if_pos (by omega)]
      · rw [upd_n e]
        by_cases z : 161 ≤ j ∧ j < 161 + i
        · rw [if_pos z, if_pos (by omega)]
        · rw [if_neg z, if_neg (by omega)]
    have hx : ∀ k', l_X9_forgets_84 a (k' + 1) (mrow M (a + 1) (fun j => if 161 ≤ j ∧ j < 161 + 3 * (q - 1) then upd S 5 (nI (q - 1)) (j + 3) else upd S 5 (nI (q - 1)) j)) (nI (161 + 3 * (q - 1))) = some (nI 0, mrow M (a + 1) (shS (upd S 5 (nI (q - 1))) (q - 1))) := by
      intro k'
      rw [l_X9_forgets_84]
      simp (disch := omega) only [li_0, li_1, li_2, li_3, li_4, li_5, li_6, li_7, li_8, li_9, li_10, li_11, li_12, li_13, li_14, li_15, li_16, li_17, li_18, li_19, li_20, li_21, li_22, li_23, li_24, li_25, li_26, li_27, li_28, li_29, li_30, li_31, li_32, li_33, li_34, li_35, li_36, li_37, li_38, li_39, li_40, li_41, li_42, li_43, li_44, li_45, li_46, li_47, li_48, li_49, li_50, li_51, li_52, li_53, li_54, li_55, li_56, li_57, li_58, li_59, li_60, li_61, li_62, li_63, li_71, li_72, li_73, li_81, li_82, li_97, li_98, li_99, li_100, li_101, li_102, li_105, li_110, li_111, li_116, li_117, li_126, li_161, li_233, li_932, li_1165, li_10000, li_100000, n_lt_t, n_lt_f, n_eq_t, n_eq_f, nI_add, n_sub, n_mul, n_ix, n_ckd, bnd_e, obn_s, zrk_0, zrk_1, zrk_b, zb_0, zb_1, zb_b, if_true, if_false, Bool.toNat_true, Bool.toNat_false, b0, b1, Bool.false_eq_true, Bool.true_eq_false, mrow_n, mrow_at, mst_n, mst_at, upd_n, upd_at, mst_mrow, if_neg]
      refine congrArg (fun z => some (nI 0, z)) (mrow_c _ _ fun j => ?_)
      unfold shS
      by_cases z : 161 ≤ j ∧ j < 161 + 3 * (q - 1)
      · rw [if_pos z, if_pos z, upd_n (by omega)]
      · rw [if_neg z, if_neg z]
    have h := loop_up (fun k' (z : Mm × Int32) => l_X9_forgets_84 a k' z.1 z.2) (fun i => (mrow M (a + 1) (fun j => if 161 ≤ j ∧ j < 161 + i then upd S 5 (nI (q - 1)) (j + 3) else upd S 5 (nI (q - 1)) j), nI (161 + i))) (3 * (q - 1)) _ hs hx FU 0 (Nat.zero_le _) (by show _ < 4000; omega)
    have e : mrow M (a + 1) (fun j => if 161 ≤ j ∧ j < 161 + 0 then upd S 5 (nI (q - 1)) (j + 3) else upd S 5 (nI (q - 1)) j) = mrow M (a + 1) (upd S 5 (nI (q - 1))) := mrow_c _ _ fun j => if_neg (by omega)
    simp only [e] at h
    unfold b_X9_forgets_70
    simp (disch := omega) only [li_0, li_1, li_2, li_3, li_4, li_5, li_6, li_7, li_8, li_9, li_10, li_11, li_12, li_13, li_14, li_15, li_16, li_17, li_18, li_19, li_20, li_21, li_22, li_23, li_24, li_25, li_26, li_27, li_28, li_29, li_30, li_31, li_32, li_33, li_34, li_35, li_36, li_37, li_38, li_39, li_40, li_41, li_42, li_43, li_44, li_45, li_46, li_47, li_48, li_49, li_50, li_51, li_52, li_53, li_54, li_55, li_56, li_57, li_58, li_59, li_60, li_61, li_62, li_63, li_71, li_72, li_73, li_81, li_82, li_97, li_98, li_99, li_100, li_101, li_102, li_105, li_110, li_111, li_116, li_117, li_126, li_161, li_233, li_932, li_1165, li_10000, li_100000, n_lt_t, n_lt_f, n_eq_t, n_eq_f, nI_add, n_sub, n_mul, n_ix, n_ckd, bnd_e, obn_s, zrk_0, zrk_1, zrk_b, zb_0, zb_1, zb_b, if_true, if_false, Bool.toNat_true, Bool.toNat_false, b0, b1, Bool.false_eq_true, Bool.true_eq_false, mrow_n, mrow_at, mst_n, mst_at, upd_n, upd_at, mst_mrow, h5]
    exact h
  have sh0 := sh (M (a + 1)) e5
  rw [mrow_self] at sh0
  unfold f_X9_forgets fgS olS
  simp (disch := omega) only [li_0, li_1, li_2, li_3, li_4, li_5, li_6, li_7, li_8, li_9, li_10, li_11, li_12, li_13, li_14, li_15, li_16, li_17, li_18, li_19, li_20, li_21, li_22, li_23, li_24, li_25, li_26, li_27, li_28, li_29, li_30, li_31, li_32, li_33, li_34, li_35, li_36, li_37, li_38, li_39, li_40, li_41, li_42, li_43, li_44, li_45, li_46, li_47, li_48, li_49, li_50, li_51, li_52, li_53, li_54, li_55, li_56, li_57, li_58, li_59, li_60, li_61, li_62, li_63, li_71, li_72, li_73, li_81, li_82, li_97, li_98, li_99, li_100, li_101, li_102, li_105, li_110, li_111, li_116, li_117, li_126, li_161, li_233, li_932, li_1165, li_10000, li_100000, n_lt_t, n_lt_f, n_eq_t, n_eq_f, nI_add, n_sub, n_mul, n_ix, n_ckd, bnd_e, obn_s, zrk_0, zrk_1, zrk_b, zb_0, zb_1, zb_b, if_true, if_false, Bool.toNat_true, Bool.toNat_false, b0, b1, Bool.false_eq_true, Bool.true_eq_false, m_logged, g1, g3]
  by_cases h2 : kS (M (a + 1)) 0 = 2
  · simp (disch := omega) only [li_0, li_1, li_2, li_3, li_4, li_5, li_6, li_7, li_8, li_9, li_10, li_11, li_12, li_13, li_14, li_15, li_16, li_17, li_18, li_19, li_20, li_21, li_22, li_23, li_24, li_25, li_26, li_27, li_28, li_29, li_30, li_31, li_32, li_33, li_34, li_35, li_36, li_37, li_38, li_39, li_40, li_41, li_42, li_43, li_44, li_45, li_46, li_47, li_48, li_49, li_50, li_51, li_52, li_53, li_54, li_55, li_56, li_57, li_58, li_59, li_60, li_61, li_62, li_63, li_71, li_72, li_73, li_81, li_82, li_97, li_98, li_99, li_100, li_101, li_102, li_105, li_110, li_111, li_116, li_117, li_126, li_161, li_233, li_932, li_1165, li_10000, li_100000, n_lt_t, n_lt_f, n_eq_t, n_eq_f, nI_add, n_sub, n_mul, n_ix, n_ckd, bnd_e, obn_s, zrk_0, zrk_1, zrk_b, zb_0, zb_1, zb_b, if_true, if_false, Bool.toNat_true, Bool.toNat_false, b0, b1, Bool.false_eq_true, Bool.true_eq_false, h2, b_X9_forgets_24, b_X9_forgets_37, m_lay, mst_row, if_pos]
    rw [sh _ (by rw [upd_n (by omega), e5])]
  · by_cases h3 : kS (M (a + 1)) 0 = 3
    · simp (disch := omega) only [li_0, li_1, li_2, li_3, li_4, li_5, li_6, li_7, li_8, li_9, li_10, li_11, li_12, li_13, li_14, li_15, li_16, li_17, li_18, li_19, li_20, li_21, li_22, li_23, li_24, li_25, li_26, li_27, li_28, li_29, li_30, li_31, li_32, li_33, li_34, li_35, li_36, li_37, li_38, li_39, li_40, li_41, li_42, li_43, li_44, li_45, li_46, li_47, li_48, li_49, li_50, li_51, li_52, li_53, li_54, li_55, li_56, li_57, li_58, li_59, li_60, li_61, li_62, li_63, li_71, li_72, li_73, li_81, li_82, li_97, li_98, li_99, li_100, li_101, li_102, li_105, li_110, li_111, li_116, li_117, li_126, li_161, li_233, li_932, li_1165, li_10000, li_100000, n_lt_t, n_lt_f, n_eq_t, n_eq_f, nI_add, n_sub, n_mul, n_ix, n_ckd, bnd_e, obn_s, zrk_0, zrk_1, zrk_b, zb_0, zb_1, zb_b, if_true, if_false, Bool.toNat_true, Bool.toNat_false, b0, b1, Bool.false_eq_true, Bool.true_eq_false, h3, b_X9_forgets_24, b_X9_forgets_37, m_lay, mst_row, if_pos, if_neg]
      rw [sh _ (by rw [upd_n (by omega), e5])]
    · by_cases h4 : kS (M (a + 1)) 0 = 4
      · have hp : pS (M (a + 1)) 0 < n := by rw [if_neg (by omega)] at g4; exact g4
        simp (disch := omega) only [li_0, li_1, li_2, li_3, li_4, li_5, li_6, li_7, li_8, li_9, li_10, li_11, li_12, li_13, li_14, li_15, li_16, li_17, li_18, li_19, li_20, li_21, li_22, li_23, li_24, li_25, li_26, li_27, li_28, li_29, li_30, li_31, li_32, li_33, li_34, li_35, li_36, li_37, li_38, li_39, li_40, li_41, li_42, li_43, li_44, li_45, li_46, li_47, li_48, li_49, li_50, li_51, li_52, li_53, li_54, li_55, li_56, li_57, li_58, li_59, li_60, li_61, li_62, li_63, li_71, li_72, li_73, li_81, li_82, li_97, li_98, li_99, li_100, li_101, li_102, li_105, li_110, li_111, li_116, li_117, li_126, li_161, li_233, li_932, li_1165, li_10000, li_100000, n_lt_t, n_lt_f, n_eq_t, n_eq_f, nI_add, n_sub, n_mul, n_ix, n_ckd, bnd_e, obn_s, zrk_0, zrk_1, zrk_b, zb_0, zb_1, zb_b, if_true, if_false, Bool.toNat_true, Bool.toNat_false, b0, b1, Bool.false_eq_true, Bool.true_eq_false, h4, b_X9_forgets_53, b_X9_forgets_67, m_put, mst_row, if_pos, if_neg]
        rw [sh _ (by rw [upd_n (by omega), e5])]
      · by_cases h5 : kS (M (a + 1)) 0 = 5
        · have hp : pS (M (a + 1)) 0 < n := by rw [if_neg (by omega)] at g4; exact g4
          simp (disch := omega) only [li_0, li_1, li_2, li_3, li_4, li_5, li_6, li_7, li_8, li_9, li_10, li_11, li_12, li_13, li_14, li_15, li_16, li_17, li_18, li_19, li_20, li_21, li_22, li_23, li_24, li_25, li_26, li_27, li_28, li_29, li_30, li_31, li_32, li_33, li_34, li_35, li_36, li_37, li_38, li_39, li_40, li_41, li_42, li_43, li_44, li_45, li_46, li_47, li_48, li_49, li_50, li_51, li_52, li_53, li_54, li_55, li_56, li_57, li_58, li_59, li_60, li_61, li_62, li_63, li_71, li_72, li_73, li_81, li_82, li_97, li_98, li_99, li_100, li_101, li_102, li_105, li_110, li_111, li_116, li_117, li_126, li_161, li_233, li_932, li_1165, li_10000, li_100000, n_lt_t, n_lt_f, n_eq_t, n_eq_f, nI_add, n_sub, n_mul, n_ix, n_ckd, bnd_e, obn_s, zrk_0, zrk_1, zrk_b, zb_0, zb_1, zb_b, if_true, if_false, Bool.toNat_true, Bool.toNat_false, b0, b1, Bool.false_eq_true, Bool.true_eq_false, h5, b_X9_forgets_53, b_X9_forgets_67, m_put, mst_row, if_pos, if_neg]
          rw [sh _ (by rw [upd_n (by omega), e5])]
        · simp (disch := omega) only [li_0, li_1, li_2, li_3, li_4, li_5, li_6, li_7, li_8, li_9, li_10, li_11, li_12, li_13, li_14, li_15, li_16, li_17, li_18, li_19, li_20, li_21, li_22, li_23, li_24, li_25, li_26, li_27, li_28, li_29, li_30, li_31, li_32, li_33, li_34, li_35, li_36, li_37, li_38, li_39, li_40, li_41, li_42, li_43, li_44, li_45, li_46, li_47, li_48, li_49, li_50, li_51, li_52, li_53, li_54, li_55, li_56, li_57, li_58, li_59, li_60, li_61, li_62, li_63, li_71, li_72, li_73, li_81, li_82, li_97, li_98, li_99, li_100, li_101, li_102, li_105, li_110, li_111, li_116, li_117, li_126, li_161, li_233, li_932, li_1165, li_10000, li_100000, n_lt_t, n_lt_f, n_eq_t, n_eq_f, nI_add, n_sub, n_mul, n_ix, n_ckd, bnd_e, obn_s, zrk_0, zrk_1, zrk_b, zb_0, zb_1, zb_b, if_true, if_false, Bool.toNat_true, Bool.toNat_false, b0, b1, Bool.false_eq_true, Bool.true_eq_false, sh0, if_neg]
theorem m_117 (S : Sm) {r x p : Nat} (hr : r < 24) (h5 : S 5 = nI r) : b_X9_makes_117 a (mrow M (a + 1) S) (nI x) (nI p) = some (nI 0, mrow M (a + 1) (apS S r x p)) := by
  unfold b_X9_makes_117 apS
  simp (disch := omega) only [li_0, li_1, li_2, li_3, li_4, li_5, li_6, li_7, li_8, li_9, li_10, li_11, li_12, li_13, li_14, li_15, li_16, li_17, li_18, li_19, li_20, li_21, li_22, li_23, li_24, li_25, li_26, li_27, li_28, li_29, li_30, li_31, li_32, li_33, li_34, li_35, li_36, li_37, li_38, li_39, li_40, li_41, li_42, li_43, li_44, li_45, li_46, li_47, li_48, li_49, li_50, li_51, li_52, li_53, li_54, li_55, li_56, li_57, li_58, li_59, li_60, li_61, li_62, li_63, li_71, li_72, li_73, li_81, li_82, li_97, li_98, li_99, li_100, li_101, li_102, li_105, li_110, li_111, li_116, li_117, li_126, li_161, li_233, li_932, li_1165, li_10000, li_100000, n_lt_t, n_lt_f, n_eq_t, n_eq_f, nI_add, n_sub, n_mul, n_ix, n_ckd, bnd_e, obn_s, zrk_0, zrk_1, zrk_b, zb_0, zb_1, zb_b, if_true, if_false, Bool.toNat_true, Bool.toNat_false, b0, b1, Bool.false_eq_true, Bool.true_eq_false, mrow_n, mrow_at, mst_n, mst_at, upd_n, upd_at, mst_mrow, h5]
theorem m_102x {S : Sm} (WS : Wf S n k q) (hq : 0 < q) : (fgS S q) 5 = nI (q - 1) := (WS.fg hq).1.2.2.2.2.1
theorem m_102y {S : Sm} (WS : Wf S n k q) (hq : 0 < q) : f_X9_forgets a (mrow M (a + 1) S) = some (nI 0, mrow M (a + 1) (fgS S q)) := by
  have W2 : Wf ((mrow M (a + 1) S) (a + 1)) n k q := by rw [mrow_at]; exact WS
  have hf := m_forgets W2 hq
  rw [mrow_at, mrow_mrow] at hf
  exact hf
theorem t_3 (A B : OR) (z : Int32) (h : z = (24 : Int32)) : ckd 5 233 (if z = (24 : Int32) then A else B) = A := by
  rw [if_pos h]
  exact n_ckd (i := 5) (by omega) (by omega)
theorem t_4 {M1 : Mm} {R : Mm} {x y : Int32} (hf : f_X9_forgets a M1 = some (nI 0, R)) : (obn (f_X9_forgets a M1) fun _ M1 => (b_X9_makes_117 a M1 x y)) = b_X9_makes_117 a R x y := by
  rw [hf, obn_s]
theorem t_5 (M1 : Mm) (x y : Int32) : b_X9_makes_102 a M1 x y = ckd 5 233 (if (M1 (a + 1) (ix 5)) = 24 then obn (f_X9_forgets a M1) fun _ M1 => (b_X9_makes_117 a M1 x y) else b_X9_makes_117 a M1 x y) := by
  unfold b_X9_makes_102
  rfl
theorem m_102z {M1 : Mm} {R : Mm} {x y : Int32} (h5 : M1 (a + 1) 5 = nI 24) (hf : f_X9_forgets a M1 = some (nI 0, R)) : b_X9_makes_102 a M1 x y = b_X9_makes_117 a R x y := by
  have h6 : M1 (a + 1) (ix 5) = (24 : Int32) := by
    show M1 (a + 1) (ix (nI 5)) = nI 24
    rw [show ix (nI 5) = 5 from nI_clamp (by omega)]
    exact h5
  rw [t_5, t_3 _ _ _ h6, t_4 hf]
theorem m_102a {S : Sm} {x p : Nat} (WS : Wf S n k q) (g : q = 24) : b_X9_makes_102 a (mrow M (a + 1) S) (nI x) (nI p) = some (nI 0, mrow M (a + 1) (apS (fgS S q) (q - 1) x p)) := by
  have h5 : (mrow M (a + 1) S) (a + 1) 5 = nI 24 := by rw [mrow_at, WS.1.2.2.2.2.1, g]
  rw [m_102z h5 (m_102y WS (by omega))]
  exact m_117 (fgS S q) (by omega) (m_102x WS (by omega))
theorem m_102b {S : Sm} {x p : Nat} (WS : Wf S n k q) (g : q ≠ 24) : b_X9_makes_102 a (mrow M (a + 1) S) (nI x) (nI p) = some (nI 0, mrow M (a + 1) (apS S q x p)) := by
  have h5 : (mrow M (a + 1) S) (a + 1) 5 = nI q := by rw [mrow_at]; exact WS.1.2.2.2.2.1
  have hq24 := WS.1.2.2.2.2.2
  have h117 := m_117 (a := a) (M := M) (x := x) (p := p) S (show q < 24 by omega) WS.1.2.2.2.2.1
  generalize mrow M (a + 1) S = M1 at *
  unfold b_X9_makes_102
  simp (disch := omega) only [li_0, li_1, li_2, li_3, li_4, li_5, li_6, li_7, li_8, li_9, li_10, li_11, li_12, li_13, li_14, li_15, li_16, li_17, li_18, li_19, li_20, li_21, li_22, li_23, li_24, li_25, li_26, li_27, li_28, li_29, li_30, li_31, li_32, li_33, li_34, li_35, li_36, li_37, li_38, li_39, li_40, li_41, li_42, li_43, li_44, li_45, li_46, li_47, li_48, li_49, li_50, li_51, li_52, li_53, li_54, li_55, li_56, li_57, li_58, li_59, li_60, li_61, li_62, li_63, li_71, li_72, li_73, li_81, li_82, li_97, li_98, li_99, li_100, li_101, li_102, li_105, li_110, li_111, li_116, li_117, li_126, li_161, li_233, li_932, li_1165, li_10000, li_100000, n_lt_t, n_lt_f, n_eq_t, n_eq_f, nI_add, n_sub, n_mul, n_ix, n_ckd, bnd_e, obn_s, zrk_0, zrk_1, zrk_b, zb_0, zb_1, zb_b, if_true, if_false, Bool.toNat_true, Bool.toNat_false, b0, b1, Bool.false_eq_true, Bool.true_eq_false, h5]
  exact h117
theorem m_102 {S : Sm} {x p : Nat} (WS : Wf S n k q) : b_X9_makes_102 a (mrow M (a + 1) S) (nI x) (nI p) = some (nI 0, mrow M (a + 1) (if q = 24 then apS (fgS S 24) 23 x p else apS S q x p)) := by
  by_cases g : q = 24
  · rw [if_pos g, m_102a WS g, g]
  · rw [if_neg g]
    exact m_102b WS g
theorem st_0 (S : Sm) (p : Nat) : stS S 0 p = upd S (7 + 9 * p + 2) (nI 1) := rfl
theorem st_1 (S : Sm) (p : Nat) : stS S 1 p = upd S (7 + 9 * p + 2) (nI 0) := rfl
theorem st_2 (S : Sm) (p : Nat) : stS S 2 p = upd S (97 + 4 * p + 2) (nI 0) := rfl
theorem st_3 (S : Sm) (p : Nat) : stS S 3 p = upd S (97 + 4 * p + 2) (nI 1) := rfl
theorem st_4 (S : Sm) (p : Nat) : stS S 4 p = upd S (7 + 9 * p + 1) (nI 1) := rfl
theorem st_5 (S : Sm) (p : Nat) : stS S 5 p = upd S (7 + 9 * p + 1) (nI 2) := rfl
theorem st_6 (S : Sm) (p : Nat) : stS S 6 p = upd S (7 + 9 * p + 3) (nI 1) := rfl
theorem st_7 (S : Sm) (p : Nat) : stS S 7 p = upd S (7 + 9 * p + 3) (nI 0) := rfl
theorem m_makes (W : Wf (M (a + 1)) n k q) {x p : Nat} (hx : x < 8) (hp : plc n k x p) : f_X9_makes a M (nI x) (nI p) = some (nI 0, mrow M (a + 1) (mkS (M (a + 1)) q x p)) := by
  have hp16 : p < 16 := by have h1 := W.1.2.1; have h2 := W.1.2.2.2.1; unfold plc at hp; split at hp <;> omega
  have hst := W.st hx hp
  have h102 := m_102 (a := a) (M := M) (x := x) (p := p) hst
  have e : mkS (M (a + 1)) q x p = if q = 24 then apS (fgS (stS (M (a + 1)) x p) 24) 23 x p else apS (stS (M (a + 1)) x p) q x p := rfl
  rw [e, ← h102]
  have hn := W.1.2.1
  clear e h102 hst
  unfold f_X9_makes
  match x, hx with
  | 0, _ =>
    have hp : p < n := by simpa [plc] using hp
    simp (disch := omega) only [li_0, li_1, li_2, li_3, li_4, li_5, li_6, li_7, li_8, li_9, li_10, li_11, li_12, li_13, li_14, li_15, li_16, li_17, li_18, li_19, li_20, li_21, li_22, li_23, li_24, li_25, li_26, li_27, li_28, li_29, li_30, li_31, li_32, li_33, li_34, li_35, li_36, li_37, li_38, li_39, li_40, li_41, li_42, li_43, li_44, li_45, li_46, li_47, li_48, li_49, li_50, li_51, li_52, li_53, li_54, li_55, li_56, li_57, li_58, li_59, li_60, li_61, li_62, li_63, li_71, li_72, li_73, li_81, li_82, li_97, li_98, li_99, li_100, li_101, li_102, li_105, li_110, li_111, li_116, li_117, li_126, li_161, li_233, li_932, li_1165, li_10000, li_100000, n_lt_t, n_lt_f, n_eq_t, n_eq_f, nI_add, n_sub, n_mul, n_ix, n_ckd, bnd_e, obn_s, zrk_0, zrk_1, zrk_b, zb_0, zb_1, zb_b, if_true, if_false, Bool.toNat_true, Bool.toNat_false, b0, b1, Bool.false_eq_true, Bool.true_eq_false, b_X9_makes_67, b_X9_makes_79, m_put, mst_row, st_0]
  | 1, _ =>
    have hp : p < n := by simpa [plc] using hp
    simp (disch := omega) only [li_0, li_1, li_2, li_3, li_4, li_5, li_6, li_7, li_8, li_9, li_10, li_11, li_12, li_13, li_14, li_15, li_16, li_17, li_18, li_19, li_20, li_21, li_22, li_23, li_24, li_25, li_26, li_27, li_28, li_29, li_30, li_31, li_32, li_33, li_34, li_35, li_36, li_37, li_38, li_39, li_40, li_41, li_42, li_43, li_44, li_45, li_46, li_47, li_48, li_49, li_50, li_51, li_52, li_53, li_54, li_55, li_56, li_57, li_58, li_59, li_60, li_61, li_62, li_63, li_71, li_72, li_73, li_81, li_82, li_97, li_98, li_99, li_100, li_101, li_102, li_105, li_110, li_111, li_116, li_117, li_126, li_161, li_233, li_932, li_1165, li_10000, li_100000, n_lt_t, n_lt_f, n_eq_t, n_eq_f, nI_add, n_sub, n_mul, n_ix, n_ckd, bnd_e, obn_s, zrk_0, zrk_1, zrk_b, zb_0, zb_1, zb_b, if_true, if_false, Bool.toNat_true, Bool.toNat_false, b0, b1, Bool.false_eq_true, Bool.true_eq_false, b_X9_makes_67, b_X9_makes_79, m_put, mst_row, st_1]
  | 2, _ =>
    simp (disch := omega) only [li_0, li_1, li_2, li_3, li_4, li_5, li_6, li_7, li_8, li_9, li_10, li_11, li_12, li_13, li_14, li_15, li_16, li_17, li_18, li_19, li_20, li_21, li_22, li_23, li_24, li_25, li_26, li_27, li_28, li_29, li_30, li_31, li_32, li_33, li_34, li_35, li_36, li_37, li_38, li_39, li_40, li_41, li_42, li_43, li_44, li_45, li_46, li_47, li_48, li_49, li_50, li_51, li_52, li_53, li_54, li_55, li_56, li_57, li_58, li_59, li_60, li_61, li_62, li_63, li_71, li_72, li_73, li_81, li_82, li_97, li_98, li_99, li_100, li_101, li_102, li_105, li_110, li_111, li_116, li_117, li_126, li_161, li_233, li_932, li_1165, li_10000, li_100000, n_lt_t, n_lt_f, n_eq_t, n_eq_f, nI_add, n_sub, n_mul, n_ix, n_ckd, bnd_e, obn_s, zrk_0, zrk_1, zrk_b, zb_0, zb_1, zb_b, if_true, if_false, Bool.toNat_true, Bool.toNat_false, b0, b1, Bool.false_eq_true, Bool.true_eq_false, b_X9_makes_10, b_X9_makes_23, m_lay, mst_row, st_2]
  | 3, _ =>
    simp (disch := omega) only [li_0, li_1, li_2, li_3, li_4, li_5, li_6, li_7, li_8, li_9, li_10, li_11, li_12, li_13, li_14, li_15, li_16, li_17, li_18, li_19, li_20, li_21, li_22, li_23, li_24, li_25, li_26, li_27, li_28, li_29, li_30, li_31, li_32, li_33, li_34, li_35, li_36, li_37, li_38, li_39, li_40, li_41, li_42, li_43, li_44, li_45, li_46, li_47, li_48, li_49, li_50, li_51, li_52, li_53, li_54, li_55, li_56, li_57, li_58, li_59, li_60, li_61, li_62, li_63, li_71, li_72, li_73, li_81, li_82, li_97, li_98, li_99, li_100, li_101, li_102, li_105, li_110, li_111, li_116, li_117, li_126, li_161, li_233, li_932, li_1165, li_10000, li_100000, n_lt_t, n_lt_f, n_eq_t, n_eq_f, nI_add, n_sub, n_mul, n_ix, n_ckd, bnd_e, obn_s, zrk_0, zrk_1, zrk_b, zb_0, zb_1, zb_b, if_true, if_false, Bool.toNat_true, Bool.toNat_false, b0, b1, Bool.false_eq_true, Bool.true_eq_false, b_X9_makes_10, b_X9_makes_23, m_lay, mst_row, st_3]
  | 4, _ =>
    have hp : p < n := by simpa [plc] using hp
    simp (disch := omega) only [li_0, li_1, li_2, li_3, li_4, li_5, li_6, li_7, li_8, li_9, li_10, li_11, li_12, li_13, li_14, li_15, li_16, li_17, li_18, li_19, li_20, li_21, li_22, li_23, li_24, li_25, li_26, li_27, li_28, li_29, li_30, li_31, li_32, li_33, li_34, li_35, li_36, li_37, li_38, li_39, li_40, li_41, li_42, li_43, li_44, li_45, li_46, li_47, li_48, li_49, li_50, li_51, li_52, li_53, li_54, li_55, li_56, li_57, li_58, li_59, li_60, li_61, li_62, li_63, li_71, li_72, li_73, li_81, li_82, li_97, li_98, li_99, li_100, li_101, li_102, li_105, li_110, li_111, li_116, li_117, li_126, li_161, li_233, li_932, li_1165, li_10000, li_100000, n_lt_t, n_lt_f, n_eq_t, n_eq_f, nI_add, n_sub, n_mul, n_ix, n_ckd, bnd_e, obn_s, zrk_0, zrk_1, zrk_b, zb_0, zb_1, zb_b, if_true, if_false, Bool.toNat_true, Bool.toNat_false, b0, b1, Bool.false_eq_true, Bool.true_eq_false, b_X9_makes_39, b_X9_makes_52, m_put, mst_row, st_4]
  | 5, _ =>
    have hp : p < n := by simpa [plc] using hp
    simp (disch := omega) only [li_0, li_1, li_2, li_3, li_4, li_5, li_6, li_7, li_8, li_9, li_10, li_11, li_12, li_13, li_14, li_15, li_16, li_17, li_18, li_19, li_20, li_21, li_22, li_23, li_24, li_25, li_26, li_27, li_28, li_29, li_30, li_31, li_32, li_33, li_34, li_35, li_36, li_37, li_38, li_39, li_40, li_41, li_42, li_43, li_44, li_45, li_46, li_47, li_48, li_49, li_50, li_51, li_52, li_53, li_54, li_55, li_56, li_57, li_58, li_59, li_60, li_61, li_62, li_63, li_71, li_72, li_73, li_81, li_82, li_97, li_98, li_99, li_100, li_101, li_102, li_105, li_110, li_111, li_116, li_117, li_126, li_161, li_233, li_932, li_1165, li_10000, li_100000, n_lt_t, n_lt_f, n_eq_t, n_eq_f, nI_add, n_sub, n_mul, n_ix, n_ckd, bnd_e, obn_s, zrk_0, zrk_1, zrk_b, zb_0, zb_1, zb_b, if_true, if_false, Bool.toNat_true, Bool.toNat_false, b0, b1, Bool.false_eq_true, Bool.true_eq_false, b_X9_makes_39, b_X9_makes_52, m_put, mst_row, st_5]
  | 6, _ =>
    have hp : p < n := by simpa [plc] using hp
    simp (disch := omega) only [li_0, li_1, li_2, li_3, li_4, li_5, li_6, li_7, li_8, li_9, li_10, li_11, li_12, li_13, li_14, li_15, li_16, li_17, li_18, li_19, li_20, li_21, li_22, li_23, li_24, li_25, li_26, li_27, li_28, li_29, li_30, li_31, li_32, li_33, li_34, li_35, li_36, li_37, li_38, li_39, li_40, li_41, li_42, li_43, li_44, li_45, li_46, li_47, li_48, li_49, li_50, li_51, li_52, li_53, li_54, li_55, li_56, li_57, li_58, li_59, li_60, li_61, li_62, li_63, li_71, li_72, li_73, li_81, li_82, li_97, li_98, li_99, li_100, li_101, li_102, li_105, li_110, li_111, li_116, li_117, li_126, li_161, li_233, li_932, li_1165, li_10000, li_100000, n_lt_t, n_lt_f, n_eq_t, n_eq_f, nI_add, n_sub, n_mul, n_ix, n_ckd, bnd_e, obn_s, zrk_0, zrk_1, zrk_b, zb_0, zb_1, zb_b, if_true, if_false, Bool.toNat_true, Bool.toNat_false, b0, b1, Bool.false_eq_true, Bool.true_eq_false, b_X9_makes_99, m_put, mst_row, st_6]
  | 7, _ =>
    have hp : p < n := by simpa [plc] using hp
    simp (disch := omega) only [li_0, li_1, li_2, li_3, li_4, li_5, li_6, li_7, li_8, li_9, li_10, li_11, li_12, li_13, li_14, li_15, li_16, li_17, li_18, li_19, li_20, li_21, li_22, li_23, li_24, li_25, li_26, li_27, li_28, li_29, li_30, li_31, li_32, li_33, li_34, li_35, li_36, li_37, li_38, li_39, li_40, li_41, li_42, li_43, li_44, li_45, li_46, li_47, li_48, li_49, li_50, li_51, li_52, li_53, li_54, li_55, li_56, li_57, li_58, li_59, li_60, li_61, li_62, li_63, li_71, li_72, li_73, li_81, li_82, li_97, li_98, li_99, li_100, li_101, li_102, li_105, li_110, li_111, li_116, li_117, li_126, li_161, li_233, li_932, li_1165, li_10000, li_100000, n_lt_t, n_lt_f, n_eq_t, n_eq_f, nI_add, n_sub, n_mul, n_ix, n_ckd, bnd_e, obn_s, zrk_0, zrk_1, zrk_b, zb_0, zb_1, zb_b, if_true, if_false, Bool.toNat_true, Bool.toNat_false, b0, b1, Bool.false_eq_true, Bool.true_eq_false, b_X9_makes_99, m_put, mst_row, st_7]
  | x + 8, h => omega
end MW
