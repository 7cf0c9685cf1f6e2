/-! what a step does to a state of the reference -/
def stS (S : Sm) (x p : Nat) : Sm :=
  if x = 2 then upd S (97 + 4 * p + 2) (nI 0) else if x = 3 then upd S (97 + 4 * p + 2) (nI 1)
  else if x = 4 then upd S (7 + 9 * p + 1) (nI 1) else if x = 5 then upd S (7 + 9 * p + 1) (nI 2)
  else if x = 0 then upd S (7 + 9 * p + 2) (nI 1) else if x = 1 then upd S (7 + 9 * p + 2) (nI 0)
  else if x = 6 then upd S (7 + 9 * p + 3) (nI 1) else upd S (7 + 9 * p + 3) (nI 0)
def shS (S : Sm) (q : Nat) : Sm := fun j => if 161 ≤ j ∧ j < 161 + 3 * q then S (j + 3) else S j
def olS (S : Sm) : Sm :=
  if kS S 0 = 2 then upd S (97 + 4 * pS S 0 + 3) (nI 0) else if kS S 0 = 3 then upd S (97 + 4 * pS S 0 + 3) (nI 1)
  else if kS S 0 = 4 then upd S (7 + 9 * pS S 0 + 8) (nI 0) else if kS S 0 = 5 then upd S (7 + 9 * pS S 0 + 8) (nI 1) else S
def fgS (S : Sm) (q : Nat) : Sm := shS (upd (olS S) 5 (nI (q - 1))) (q - 1)
def apS (S : Sm) (q x p : Nat) : Sm := upd (upd (upd (upd (upd S (161 + 3 * q) (nI x)) (161 + 3 * q + 1) (nI p)) (161 + 3 * q + 2) (S 3)) 5 (nI (q + 1))) 4 (S 4 + nI 1)
def mkS (S : Sm) (q x p : Nat) : Sm := if q = 24 then apS (fgS (stS S x p) 24) 23 x p else apS (stS S x p) q x p
def mkq (q : Nat) : Nat := if q = 24 then 24 else q + 1
section MW
variable {a : Nat} {M : Mm} {n k q : Nat}
theorem bS_u {S : Sm} {i j s : Nat} {x : Int32} (h : 7 + 9 * s + j ≠ i) : bS (upd S i x) j s = bS S j s := by unfold bS aO; rw [upd_n h]
theorem fS_u {S : Sm} {i s : Nat} {x : Int32} (h : 7 + 9 * s + 1 ≠ i) : fS (upd S i x) s = fS S s := by unfold fS aO; rw [upd_n h]
theorem uS_u {S : Sm} {i s : Nat} {x : Int32} (h : 97 + 4 * s + 0 ≠ i) : uS (upd S i x) s = uS S s := by unfold uS aI; rw [upd_n h]
theorem vS_u {S : Sm} {i s : Nat} {x : Int32} (h : 97 + 4 * s + 1 ≠ i) : vS (upd S i x) s = vS S s := by unfold vS aI; rw [upd_n h]
theorem cS_u {S : Sm} {i s : Nat} {x : Int32} (h : 97 + 4 * s + 2 ≠ i) : cS (upd S i x) s = cS S s := by unfold cS aI; rw [upd_n h]
theorem wS_u {S : Sm} {i s : Nat} {x : Int32} (h : 97 + 4 * s + 3 ≠ i) : wS (upd S i x) s = wS S s := by unfold wS aI; rw [upd_n h]
theorem kS_u {S : Sm} {i s : Nat} {x : Int32} (h : 161 + 3 * s + 0 ≠ i) : kS (upd S i x) s = kS S s := by unfold kS aL; rw [upd_n h]
theorem pS_u {S : Sm} {i s : Nat} {x : Int32} (h : 161 + 3 * s + 1 ≠ i) : pS (upd S i x) s = pS S s := by unfold pS aL; rw [upd_n h]
theorem aO_u {S : Sm} {i s j : Nat} {x : Int32} (h : 7 + 9 * s + j ≠ i) : aO (upd S i x) s j = aO S s j := by unfold aO; rw [upd_n h]
theorem aI_u {S : Sm} {i s j : Nat} {x : Int32} (h : 97 + 4 * s + j ≠ i) : aI (upd S i x) s j = aI S s j := by unfold aI; rw [upd_n h]
theorem aL_u {S : Sm} {i s j : Nat} {x : Int32} (h : 161 + 3 * s + j ≠ i) : aL (upd S i x) s j = aL S s j := by unfold aL; rw [upd_n h]
/-- a place's new number, in a well formed state -/
theorem Wf.setC {S : Sm} (W : Wf S n k q) {p : Nat} (hp : p < k) (b : Bool) : Wf (upd S (97 + 4 * p + 2) (nI b.toNat)) n k q := by
  obtain ⟨⟨e0, hn, e1, hk, e5, hq⟩, WI, WO, WL⟩ := W
  refine ⟨⟨by rw [upd_n (by omega)]; exact e0, hn, by rw [upd_n (by omega)]; exact e1, hk, by rw [upd_n (by omega)]; exact e5, hq⟩, fun i hi => ?_, fun s hs => ?_, fun j hj => ?_⟩
  · have h := WI i hi
    rw [aI_u (by omega), aI_u (by omega), uS_u (by omega), vS_u (by omega), aI_u (j := 3) (by omega), wS_u (by omega)]
    refine ⟨h.1, h.2.1, ?_, h.2.2.2⟩
    by_cases g : i = p
    · subst g
      unfold cS aI
      rw [upd_at]
      cases b <;> rfl
    · rw [aI_u (by omega), cS_u (by omega)]
      exact h.2.2.1
  · rw [aO_u (by omega), aO_u (by omega), aO_u (by omega), aO_u (by omega), aO_u (by omega), fS_u (by omega), bS_u (by omega), bS_u (by omega), bS_u (by omega), bS_u (by omega)]
    exact WO s hs
  · rw [aL_u (by omega), aL_u (by omega), kS_u (by omega), pS_u (by omega)]
    exact WL j hj
theorem Wf.setW {S : Sm} (W : Wf S n k q) {p : Nat} (hp : p < k) (b : Bool) : Wf (upd S (97 + 4 * p + 3) (nI b.toNat)) n k q := by
  obtain ⟨⟨e0, hn, e1, hk, e5, hq⟩, WI, WO, WL⟩ := W
  refine ⟨⟨by rw [upd_n (by omega)]; exact e0, hn, by rw [upd_n (by omega)]; exact e1, hk, by rw [upd_n (by omega)]; exact e5, hq⟩, fun i hi => ?_, fun s hs => ?_, fun j hj => ?_⟩
  · have h := WI i hi
    rw [aI_u (by omega), aI_u (by omega), uS_u (by omega), vS_u (by omega), aI_u (j := 2) (by omega), cS_u (by omega)]
    refine ⟨h.1, h.2.1, h.2.2.1, ?_⟩
    by_cases g : i = p
    · subst g
      unfold wS aI
      rw [upd_at]
      cases b <;> rfl
    · rw [aI_u (by omega), wS_u (by omega)]
      exact h.2.2.2
  · rw [aO_u (by omega), aO_u (by omega), aO_u (by omega), aO_u (by omega), aO_u (by omega), fS_u (by omega), bS_u (by omega), bS_u (by omega), bS_u (by omega), bS_u (by omega)]
    exact WO s hs
  · rw [aL_u (by omega), aL_u (by omega), kS_u (by omega), pS_u (by omega)]
    exact WL j hj
theorem Wf.setF {S : Sm} (W : Wf S n k q) {p : Nat} (hp : p < n) {x : Nat} (hx : x ≤ 2) : Wf (upd S (7 + 9 * p + 1) (nI x)) n k q := by
  obtain ⟨⟨e0, hn, e1, hk, e5, hq⟩, WI, WO, WL⟩ := W
  refine ⟨⟨by rw [upd_n (by omega)]; exact e0, hn, by rw [upd_n (by omega)]; exact e1, hk, by rw [upd_n (by omega)]; exact e5, hq⟩, fun i hi => ?_, fun s hs => ?_, fun j hj => ?_⟩
  · rw [aI_u (by omega), aI_u (by omega), aI_u (by omega), aI_u (by omega), uS_u (by omega), vS_u (by omega), cS_u (by omega), wS_u (by omega)]
    exact WI i hi
  · have h := WO s hs
    rw [aO_u (j := 2) (by omega), aO_u (j := 3) (by omega), aO_u (j := 4) (by omega), aO_u (j := 8) (by omega), bS_u (by omega), bS_u (by omega), bS_u (by omega), bS_u (by omega)]
    refine ⟨?_, h.2⟩
    by_cases g : s = p
    · subst g
      unfold fS aO
      rw [upd_at, show ix (nI x) = x from nI_clamp (by omega)]
      exact ⟨rfl, hx⟩
    · rw [aO_u (by omega), fS_u (by omega)]
      exact h.1
  · rw [aL_u (by omega), aL_u (by omega), kS_u (by omega), pS_u (by omega)]
    exact WL j hj
/-- any of a section's flags, or a number of its that isn't looked at here -/
theorem Wf.setB {S : Sm} (W : Wf S n k q) {p j : Nat} (hp : p < n) (hj : j < 9) (h1 : j ≠ 1) {y : Int32} (hy : (j = 2 ∨ j = 3 ∨ j = 4 ∨ j = 8) → ∃ b : Bool, y = nI b.toNat) : Wf (upd S (7 + 9 * p + j) y) n k q := by
  obtain ⟨⟨e0, hn, e1, hk, e5, hq⟩, WI, WO, WL⟩ := W
  refine ⟨⟨by rw [upd_n (by omega)]; exact e0, hn, by rw [upd_n (by omega)]; exact e1, hk, by rw [upd_n (by omega)]; exact e5, hq⟩, fun i hi => ?_, fun s hs => ?_, fun t ht => ?_⟩
  · rw [aI_u (by omega), aI_u (by omega), aI_u (by omega), aI_u (by omega), uS_u (by omega), vS_u (by omega), cS_u (by omega), wS_u (by omega)]
    exact WI i hi
  · have h := WO s hs
    have one : ∀ i, (i = 2 ∨ i = 3 ∨ i = 4 ∨ i = 8) → aO S s i = nI (bS S i s).toNat → aO (upd S (7 + 9 * p + j) y) s i = nI (bS (upd S (7 + 9 * p + j) y) i s).toNat := by
      intro i hi ho
      by_cases g : s = p ∧ i = j
      · obtain ⟨g1, g2⟩ := g
        subst g1; subst g2
        obtain ⟨b, rfl⟩ := hy hi
        unfold bS aO
        rw [upd_at]
        cases b <;> rfl
      · rw [aO_u (by omega), bS_u (by omega)]
        exact ho
    rw [aO_u (j := 1) (by omega), fS_u (by omega)]
    exact ⟨h.1, one 2 (by omega) h.2.1, one 3 (by omega) h.2.2.1, one 4 (by omega) h.2.2.2.1, one 8 (by omega) h.2.2.2.2⟩
  · rw [aL_u (by omega), aL_u (by omega), kS_u (by omega), pS_u (by omega)]
    exact WL t ht
/-- pool, time, steps made, late minutes -/
theorem Wf.setG {S : Sm} (W : Wf S n k q) {j : Nat} (hj : j = 2 ∨ j = 3 ∨ j = 4 ∨ j = 6) (y : Int32) : Wf (upd S j y) n k q := by
  obtain ⟨⟨e0, hn, e1, hk, e5, hq⟩, WI, WO, WL⟩ := W
  refine ⟨⟨by rw [upd_n (by omega)]; exact e0, hn, by rw [upd_n (by omega)]; exact e1, hk, by rw [upd_n (by omega)]; exact e5, hq⟩, fun i hi => ?_, fun s hs => ?_, fun t ht => ?_⟩
  · rw [aI_u (by omega), aI_u (by omega), aI_u (by omega), aI_u (by omega), uS_u (by omega), vS_u (by omega), cS_u (by omega), wS_u (by omega)]
    exact WI i hi
  · rw [aO_u (by omega), aO_u (by omega), aO_u (by omega), aO_u (by omega), aO_u (by omega), fS_u (by omega), bS_u (by omega), bS_u (by omega), bS_u (by omega), bS_u (by omega)]
    exact WO s hs
  · rw [aL_u (by omega), aL_u (by omega), kS_u (by omega), pS_u (by omega)]
    exact WL t ht
theorem Wf.st {S : Sm} (W : Wf S n k q) {x p : Nat} (hx : x < 8) (hp : plc n k x p) : Wf (stS S x p) n k q := by
  match x, hx with
  | 0, _ => exact W.setB (by simpa [plc] using hp) (by omega) (by omega) (fun _ => ⟨true, rfl⟩)
  | 1, _ => exact W.setB (by simpa [plc] using hp) (by omega) (by omega) (fun _ => ⟨false, rfl⟩)
  | 2, _ => exact W.setC (by simpa [plc] using hp) false
  | 3, _ => exact W.setC (by simpa [plc] using hp) true
  | 4, _ => exact W.setF (by simpa [plc] using hp) (by omega)
  | 5, _ => exact W.setF (by simpa [plc] using hp) (by omega)
  | 6, _ => exact W.setB (by simpa [plc] using hp) (by omega) (by omega) (fun _ => ⟨true, rfl⟩)
  | 7, _ => exact W.setB (by simpa [plc] using hp) (by omega) (by omega) (fun _ => ⟨false, rfl⟩)
  | x + 8, h => omega
theorem Wf.ol {S : Sm} (W : Wf S n k q) (hq : 0 < q) : Wf (olS S) n k q := by
  have h := (W.2.2.2 0 hq).2.2
  unfold olS
  split
  · rename_i g
    rw [if_pos (Or.inl g)] at h
    exact W.setW h false
  · split
    · rename_i g
      rw [if_pos (Or.inr g)] at h
      exact W.setW h true
    · rename_i g1 g2
      rw [if_neg (by omega)] at h
      split
      · exact W.setB h (by omega) (by omega) (fun _ => ⟨false, rfl⟩)
      · split
        · exact W.setB h (by omega) (by omega) (fun _ => ⟨true, rfl⟩)
        · exact W
theorem sh_O {S : Sm} {q s j : Nat} (h : 7 + 9 * s + j < 161) : aO (shS S q) s j = aO S s j := by unfold aO shS; rw [if_neg (by omega)]
theorem sh_I {S : Sm} {q s j : Nat} (h : 97 + 4 * s + j < 161) : aI (shS S q) s j = aI S s j := by unfold aI shS; rw [if_neg (by omega)]
theorem sh_L {S : Sm} {q s j : Nat} (h : s < q) (hj : j < 3) : aL (shS S q) s j = aL S (s + 1) j := by
  unfold aL shS
  rw [if_pos (by omega)]
  congr 1
  omega
theorem Wf.fg {S : Sm} (W : Wf S n k q) (hq : 0 < q) : Wf (fgS S q) n k (q - 1) := by
  obtain ⟨⟨e0, hn, e1, hk, e5, hq24⟩, WI, WO, WL⟩ := W.ol hq
  unfold fgS
  have hO : ∀ s, s < n → ∀ j, j < 9 → aO (shS (upd (olS S) 5 (nI (q - 1))) (q - 1)) s j = aO (olS S) s j := fun s hs j hj => by rw [sh_O (by omega), aO_u (by omega)]
  have hI : ∀ i, i < k → ∀ j, j < 4 → aI (shS (upd (olS S) 5 (nI (q - 1))) (q - 1)) i j = aI (olS S) i j := fun s hs j hj => by rw [sh_I (by omega), aI_u (by omega)]
  have hL : ∀ i, i < q - 1 → ∀ j, j < 3 → aL (shS (upd (olS S) 5 (nI (q - 1))) (q - 1)) i j = aL (olS S) (i + 1) j := fun s hs j hj => by rw [sh_L hs hj, aL_u (by omega)]
  refine ⟨⟨?_, hn, ?_, hk, ?_, by omega⟩, fun i hi => ?_, fun s hs => ?_, fun j hj => ?_⟩
  · show shS _ _ 0 = _
    rw [shS, if_neg (by omega), upd_n (by omega), e0]
  · rw [shS, if_neg (by omega), upd_n (by omega), e1]
  · rw [shS, if_neg (by omega), upd_at]
  · unfold uS vS cS wS
    rw [hI i hi 0 (by omega), hI i hi 1 (by omega), hI i hi 2 (by omega), hI i hi 3 (by omega)]
    exact WI i hi
  · unfold fS bS
    rw [hO s hs 1 (by omega), hO s hs 2 (by omega), hO s hs 3 (by omega), hO s hs 4 (by omega), hO s hs 8 (by omega)]
    exact WO s hs
  · unfold kS pS
    rw [hL j hj 0 (by omega), hL j hj 1 (by omega)]
    exact WL (j + 1) (by omega)
theorem Wf.ap {S : Sm} (W : Wf S n k q) (hq : q < 24) {x p : Nat} (hx : x < 8) (hp : plc n k x p) : Wf (apS S q x p) n k (q + 1) := by
  obtain ⟨⟨e0, hn, e1, hk, e5, -⟩, WI, WO, WL⟩ := W
  have hp16 : p < 16 := by unfold plc at hp; split at hp <;> omega
  have hO : ∀ s, s < n → ∀ j, j < 9 → aO (apS S q x p) s j = aO S s j := fun s hs j hj => by
    unfold apS
    rw [aO_u (by omega), aO_u (by omega), aO_u (by omega), aO_u (by omega), aO_u (by omega)]
  have hI : ∀ i, i < k → ∀ j, j < 4 → aI (apS S q x p) i j = aI S i j := fun s hs j hj => by
    unfold apS
    rw [aI_u (by omega), aI_u (by omega), aI_u (by omega), aI_u (by omega), aI_u (by omega)]
  have hL : ∀ i, i < q → ∀ j, j < 3 → aL (apS S q x p) i j = aL S i j := fun s hs j hj => by
    unfold apS
    rw [aL_u (by omega), aL_u (by omega), aL_u (by omega), aL_u (by omega), aL_u (by omega)]
  refine ⟨⟨?_, hn, ?_, hk, ?_, by omega⟩, fun i hi => ?_, fun s hs => ?_, fun j hj => ?_⟩
  · unfold apS
    rw [upd_n (by omega), upd_n (by omega), upd_n (by omega), upd_n (by omega), upd_n (by omega), e0]
  · unfold apS
    rw [upd_n (by omega), upd_n (by omega), upd_n (by omega), upd_n (by omega), upd_n (by omega), e1]
  · unfold apS
    rw [upd_n (by omega), upd_at]
  · unfold uS vS cS wS
    rw [hI i hi 0 (by omega), hI i hi 1 (by omega), hI i hi 2 (by omega), hI i hi 3 (by omega)]
    exact WI i hi
  · unfold fS bS
    rw [hO s hs 1 (by omega), hO s hs 2 (by omega), hO s hs 3 (by omega), hO s hs 4 (by omega), hO s hs 8 (by omega)]
    exact WO s hs
  · unfold kS pS
    by_cases g : j < q
    · rw [hL j g 0 (by omega), hL j g 1 (by omega)]
      exact WL j g
    · have g : j = q := by omega
      subst g
      have h0 : aL (apS S j x p) j 0 = nI x := by
        unfold apS
        rw [aL_u (by omega), aL_u (by omega), aL_u (by omega), aL_u (by omega)]
        unfold aL
        rw [Nat.add_zero, upd_at]
      have h1 : aL (apS S j x p) j 1 = nI p := by
        unfold apS
        rw [aL_u (by omega), aL_u (by omega), aL_u (by omega)]
        unfold aL
        rw [upd_at]
      rw [h0, h1, show ix (nI x) = x from nI_clamp (by omega), show ix (nI p) = p from nI_clamp (by omega)]
      exact ⟨⟨rfl, hx⟩, rfl, hp⟩
theorem Wf.mk {S : Sm} (W : Wf S n k q) {x p : Nat} (hx : x < 8) (hp : plc n k x p) : Wf (mkS S q x p) n k (mkq q) := by
  have h := W.st hx hp
  have hq := W.1.2.2.2.2.2
  unfold mkS mkq
  split
  · rename_i g
    subst g
    exact (h.fg (by omega)).ap (by omega) hx hp
  · exact h.ap (by omega) hx hp
/-! .. and that the reference does it -/
theorem m_102x {S : Sm} (WS : Wf S n k q) (hq : 0 < q) : (fgS S q) 5 = nI (q - 1) := (WS.fg hq).1.2.2.2.2.1
theorem t_3 (A B : OR) (z : Int32) (h : z = (24 : Int32)) : ckd 5 233 (if z = (24 : Int32) then A else B) = A := by
  rw [if_pos h]
  exact n_ckd (i := 5) (by omega) (by omega)
theorem st_0 (S : Sm) (p : Nat) : stS S 0 p = upd S (7 + 9 * p + 2) (nI 1) := rfl
theorem st_1 (S : Sm) (p : Nat) : stS S 1 p = upd S (7 + 9 * p + 2) (nI 0) := rfl
theorem st_2 (S : Sm) (p : Nat) : stS S 2 p = upd S (97 + 4 * p + 2) (nI 0) := rfl
theorem st_3 (S : Sm) (p : Nat) : stS S 3 p = upd S (97 + 4 * p + 2) (nI 1) := rfl
theorem st_4 (S : Sm) (p : Nat) : stS S 4 p = upd S (7 + 9 * p + 1) (nI 1) := rfl
theorem st_5 (S : Sm) (p : Nat) : stS S 5 p = upd S (7 + 9 * p + 1) (nI 2) := rfl
theorem st_6 (S : Sm) (p : Nat) : stS S 6 p = upd S (7 + 9 * p + 3) (nI 1) := rfl
theorem st_7 (S : Sm) (p : Nat) : stS S 7 p = upd S (7 + 9 * p + 3) (nI 0) := rfl
end MW

