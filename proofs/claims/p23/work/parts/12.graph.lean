/-! which places hang together over closed edges: by properties that the edges keep; in passes over the edges -/
def cn (k : Nat) (u v : Nat → Nat) (cl : Nat → Bool) (a b : Nat) : Prop := ∀ P : Nat → Prop, P a → (∀ i, i < k → cl i = true → (P (u i) ↔ P (v i))) → P b
theorem cn_rf {k : Nat} {u v : Nat → Nat} {cl : Nat → Bool} (a : Nat) : cn k u v cl a a := fun _ h _ => h
theorem cn_sy {k : Nat} {u v : Nat → Nat} {cl : Nat → Bool} {a b : Nat} (h : cn k u v cl a b) : cn k u v cl b a := by
  intro P hb hc
  refine h (fun x => P x → P a) (fun q => q) (fun i hi hcl => ?_) hb
  have := hc i hi hcl
  exact ⟨fun f q => f (this.mpr q), fun f q => f (this.mp q)⟩
theorem cn_tr {k : Nat} {u v : Nat → Nat} {cl : Nat → Bool} {a b c : Nat} (h : cn k u v cl a b) (h2 : cn k u v cl b c) : cn k u v cl a c := fun P ha hc => h2 P (h P ha hc) hc
theorem cn_ed {k : Nat} {u v : Nat → Nat} {cl : Nat → Bool} {i : Nat} (hi : i < k) (hc : cl i = true) : cn k u v cl (u i) (v i) := fun P h q => (q i hi hc).mp h
theorem cn_lt {k : Nat} {u v : Nat → Nat} {cl : Nat → Bool} {n a b : Nat} (hn : ∀ i, i < k → u i < n ∧ v i < n) (h : cn k u v cl a b) (ha : a < n) : b < n :=
  h (fun x => x < n) ha fun i hi _ => ⟨fun _ => (hn i hi).2, fun _ => (hn i hi).1⟩
/-- sets that grow, pass by pass, until the edges keep them -/
theorem clos {n k : Nat} {u v : Nat → Nat} {cl : Nat → Bool} (hn : ∀ i, i < k → u i < n ∧ v i < n) (T : Nat → Nat → Bool) {a : Nat} (ha : a < n) (h0 : T 0 a = true) (mono : ∀ r x, T r x = true → T (r + 1) x = true)
    (step : ∀ r j, j < k → cl j = true → (T r (u j) = true ∨ T r (v j) = true) → T (r + 1) (u j) = true ∧ T (r + 1) (v j) = true)
    (stay : ∀ r, (∀ j, j < k → cl j = true → T r (u j) = T r (v j)) → ∀ x, T (r + 1) x = T r x) : ∀ R, n ≤ R + 1 → ∀ j, j < k → cl j = true → T R (u j) = T R (v j) := by
  intro R hR
  refine Classical.byContradiction fun hno => ?_
  have stays : ∀ d r, (∀ j, j < k → cl j = true → T r (u j) = T r (v j)) → ∀ j, j < k → cl j = true → T (r + d) (u j) = T (r + d) (v j) := by
    intro d
    induction d with
    | zero => intro r h; exact h
    | succ d ih =>
      intro r h j hj hc
      have := ih r h
      rw [← Nat.add_assoc, stay _ this, stay _ this]
      exact this j hj hc
  have open_ : ∀ r, r ≤ R → ¬ ∀ j, j < k → cl j = true → T r (u j) = T r (v j) := by
    intro r hr h
    have := stays (R - r) r h
    rw [show r + (R - r) = R by omega] at this
    exact hno this
  have big : ∀ r, r ≤ R → r + 1 ≤ fb_ct (T r) n := by
    intro r
    induction r with
    | zero =>
      intro _
      have hp : fb_ct (T 0) n ≠ 0 := fun h => by
        have := (fb_ct_zero.mp h) a ha
        rw [h0] at this
        cases this
      omega
    | succ r ih =>
      intro hr
      have h1 := ih (by omega)
      obtain ⟨j, hj⟩ := Classical.not_forall.mp (open_ r (by omega))
      obtain ⟨hjk, hj⟩ := Classical.not_imp.mp hj
      obtain ⟨hcl, hj⟩ := Classical.not_imp.mp hj
      have hx : ∃ x, x < n ∧ T r x = false ∧ T (r + 1) x = true := by
        have hs := step r j hjk hcl
        cases h2 : T r (u j) <;> cases h3 : T r (v j)
        · rw [h2, h3] at hj; exact absurd rfl hj
        · exact ⟨u j, (hn j hjk).1, h2, (hs (Or.inr h3)).1⟩
        · exact ⟨v j, (hn j hjk).2, h3, (hs (Or.inl h2)).2⟩
        · rw [h2, h3] at hj; exact absurd rfl hj
      obtain ⟨x, hx1, hx2, hx3⟩ := hx
      have h4 := fb_ct_upd (T r) true (i := x) hx1
      rw [hx2] at h4
      have h5 : fb_ct (fun y => if y = x then true else T r y) n ≤ fb_ct (T (r + 1)) n := fb_ct_sub fun y _ hy => by
        by_cases e : y = x
        · rw [e]; exact hx3
        · simp only [if_neg e] at hy
          exact mono r y hy
      rw [if_neg (by decide), if_pos rfl] at h4
      omega
  have hall := big R (Nat.le_refl R)
  have hle := fb_ct_le (T R) n
  have hne : fb_ct (T R) n = n := by omega
  have hev : ∀ x, x < n → T R x = true := by
    intro x hx
    have := fb_ct_not (T R) n
    have hz : fb_ct (fun y => !T R y) n = 0 := by omega
    have := (fb_ct_zero.mp hz) x hx
    simpa using this
  exact hno fun j hj _ => by rw [hev _ (hn j hj).1, hev _ (hn j hj).2]
/-- one pass over the first i edges -/
def ps (u v : Nat → Nat) (cl : Nat → Bool) : Nat → (Nat → Bool) → (Nat → Bool)
  | 0, T => T
  | i + 1, T => fun x => ps u v cl i T x || (cl i && (ps u v cl i T (u i) || ps u v cl i T (v i)) && (x == u i || x == v i))
def its (f : (Nat → Bool) → (Nat → Bool)) : Nat → (Nat → Bool) → (Nat → Bool)
  | 0, T => T
  | r + 1, T => f (its f r T)
theorem ps_mono {u v : Nat → Nat} {cl : Nat → Bool} {T : Nat → Bool} {x : Nat} (h : T x = true) : ∀ i, ps u v cl i T x = true
  | 0 => h
  | i + 1 => by simp [ps, ps_mono h i]
theorem ps_le {u v : Nat → Nat} {cl : Nat → Bool} {T : Nat → Bool} {x : Nat} : ∀ {i j : Nat}, i ≤ j → ps u v cl i T x = true → ps u v cl j T x = true := by
  intro i j hij h
  induction j with
  | zero => rw [show i = 0 by omega] at h; exact h
  | succ j ih =>
    rcases Nat.lt_or_ge j i with q | q
    · rw [show i = j + 1 by omega] at h; exact h
    · simp [ps, ih q]
theorem ps_step {u v : Nat → Nat} {cl : Nat → Bool} {T : Nat → Bool} {i j : Nat} (hj : j < i) (hc : cl j = true) (h : T (u j) = true ∨ T (v j) = true) : ps u v cl i T (u j) = true ∧ ps u v cl i T (v j) = true := by
  have h1 : ps u v cl j T (u j) = true ∨ ps u v cl j T (v j) = true := h.elim (fun q => Or.inl (ps_mono q j)) (fun q => Or.inr (ps_mono q j))
  have h2 : ps u v cl (j + 1) T (u j) = true ∧ ps u v cl (j + 1) T (v j) = true := by
    rcases h1 with q | q <;> simp [ps, hc, q]
  exact ⟨ps_le hj h2.1, ps_le hj h2.2⟩
theorem ps_stay {u v : Nat → Nat} {cl : Nat → Bool} {T : Nat → Bool} : ∀ {i : Nat}, (∀ j, j < i → cl j = true → T (u j) = T (v j)) → ∀ x, ps u v cl i T x = T x
  | 0, _, _ => rfl
  | i + 1, h, x => by
    have e := ps_stay (i := i) (fun j hj => h j (by omega))
    simp only [ps, e]
    cases hc : cl i
    · simp
    · have := h i (by omega) hc
      by_cases h1 : x = u i
      · subst h1
        rw [← this]; simp
      · by_cases h2 : x = v i
        · subst h2
          rw [this]; simp
        · simp [h1, h2]
theorem ps_sound {u v : Nat → Nat} {cl : Nat → Bool} {T : Nat → Bool} {P : Nat → Prop} (hT : ∀ x, T x = true → P x) : ∀ {i : Nat}, (∀ j, j < i → cl j = true → (P (u j) ↔ P (v j))) → ∀ x, ps u v cl i T x = true → P x
  | 0, _, x, h => hT x h
  | i + 1, hP, x, h => by
    have ih := ps_sound hT (i := i) (fun j hj => hP j (by omega))
    simp only [ps, Bool.or_eq_true, Bool.and_eq_true, beq_iff_eq] at h
    rcases h with h | ⟨⟨hc, h1⟩, h2⟩
    · exact ih x h
    · have hh := hP i (by omega) hc
      have hu : P (u i) := by
        rcases h1 with h1 | h1
        · exact ih _ h1
        · exact hh.mpr (ih _ h1)
      rcases h2 with h2 | h2
      · rw [h2]; exact hu
      · rw [h2]; exact hh.mp hu
/-- all places that hang together with one of a set -/
theorem its_iff {n k : Nat} {u v : Nat → Nat} {cl : Nat → Bool} (hn : ∀ i, i < k → u i < n ∧ v i < n) {T : Nat → Bool} (hT : ∀ x, T x = true → x < n) {R : Nat} (hR : n ≤ R + 1) (x : Nat) : its (ps u v cl k) R T x = true ↔ ∃ a, T a = true ∧ cn k u v cl a x := by
  have snd : ∀ {P : Nat → Prop}, (∀ x, T x = true → P x) → (∀ j, j < k → cl j = true → (P (u j) ↔ P (v j))) → ∀ r x, its (ps u v cl k) r T x = true → P x := by
    intro P h1 h2 r
    induction r with
    | zero => exact h1
    | succ r ih => exact ps_sound ih h2
  constructor
  · intro h
    refine snd (P := fun y => ∃ a, T a = true ∧ cn k u v cl a y) (fun y hy => ⟨y, hy, cn_rf y⟩) (fun j hj hc => ?_) R x h
    exact ⟨fun ⟨a, h1, h2⟩ => ⟨a, h1, cn_tr h2 (cn_ed hj hc)⟩, fun ⟨a, h1, h2⟩ => ⟨a, h1, cn_tr h2 (cn_sy (cn_ed hj hc))⟩⟩
  · rintro ⟨a, h1, h2⟩
    have hcl := clos hn (fun r => its (ps u v cl k) r T) (hT a h1) h1 (fun r x h => ps_mono h k) (fun r j hj hc h => ps_step hj hc h) (fun r h x => ps_stay h x) R hR
    have hkeep : ∀ r, its (ps u v cl k) r T a = true := by
      intro r
      induction r with
      | zero => exact h1
      | succ r ih => exact ps_mono ih k
    exact h2 (fun y => its (ps u v cl k) R T y = true) (hkeep R) (fun j hj hc => by rw [show its (ps u v cl k) R T (u j) = its (ps u v cl k) R T (v j) from hcl j hj hc])
/-- labels: each edge gives both its ends the lower of theirs -/
def lbp (u v : Nat → Nat) (cl : Nat → Bool) : Nat → (Nat → Nat) → (Nat → Nat)
  | 0, f => f
  | i + 1, f => fun x => if cl i = true ∧ (x = u i ∨ x = v i) then (if lbp u v cl i f (u i) < lbp u v cl i f (v i) then lbp u v cl i f (u i) else lbp u v cl i f (v i)) else lbp u v cl i f x
def itl (f : (Nat → Nat) → (Nat → Nat)) : Nat → (Nat → Nat) → (Nat → Nat)
  | 0, T => T
  | r + 1, T => f (itl f r T)
theorem lbp_cn {u v : Nat → Nat} {cl : Nat → Bool} {k : Nat} {f : Nat → Nat} (hf : ∀ x, cn k u v cl x (f x)) : ∀ {i : Nat}, i ≤ k → ∀ x, cn k u v cl x (lbp u v cl i f x)
  | 0, _, x => hf x
  | i + 1, hi, x => by
    have ih := lbp_cn hf (i := i) (by omega)
    simp only [lbp]
    split
    · rename_i h
      have e := cn_ed (u := u) (v := v) (k := k) (i := i) (by omega) h.1
      have hx : cn k u v cl x (u i) := by
        rcases h.2 with q | q
        · rw [q]; exact cn_rf _
        · rw [q]; exact cn_sy e
      split
      · exact cn_tr hx (ih _)
      · exact cn_tr hx (cn_tr e (ih _))
    · exact ih x
theorem lbp_dn {u v : Nat → Nat} {cl : Nat → Bool} {f : Nat → Nat} : ∀ (i x : Nat), lbp u v cl i f x ≤ f x
  | 0, _ => Nat.le_refl _
  | i + 1, x => by
    have ih := lbp_dn (u := u) (v := v) (cl := cl) (f := f) i
    simp only [lbp]
    split
    · rename_i h
      rcases h.2 with q | q
      · subst q
        have := ih (u i)
        split <;> omega
      · subst q
        have := ih (v i)
        split <;> omega
    · exact ih x
theorem lbp_le {u v : Nat → Nat} {cl : Nat → Bool} {f : Nat → Nat} : ∀ {i j : Nat}, i ≤ j → ∀ x, lbp u v cl j f x ≤ lbp u v cl i f x := by
  intro i j hij
  induction j with
  | zero => intro x; rw [show i = 0 by omega]; exact Nat.le_refl _
  | succ j ih =>
    intro x
    rcases Nat.lt_or_ge j i with q | q
    · rw [show i = j + 1 by omega]; exact Nat.le_refl _
    · refine Nat.le_trans ?_ (ih q x)
      simp only [lbp]
      split
      · rename_i h
        rcases h.2 with r | r
        · subst r; split <;> omega
        · subst r; split <;> omega
      · exact Nat.le_refl _
/-- the labels behind n - 1 rounds: of each place the lowest that hangs together with it -/
theorem itl_low {n k : Nat} {u v : Nat → Nat} {cl : Nat → Bool} (hn : ∀ i, i < k → u i < n ∧ v i < n) {R : Nat} (hR : n ≤ R + 1) {x : Nat} (hx : x < n) :
    itl (lbp u v cl k) R (fun y => y) x ≤ x ∧ cn k u v cl x (itl (lbp u v cl k) R (fun y => y) x) ∧ ∀ y, cn k u v cl x y → itl (lbp u v cl k) R (fun y => y) x ≤ y := by
  have hc : ∀ r x, cn k u v cl x (itl (lbp u v cl k) r (fun y => y) x) := by
    intro r
    induction r with
    | zero => exact fun x => cn_rf x
    | succ r ih => exact lbp_cn ih (Nat.le_refl k)
  have hd : ∀ r x, itl (lbp u v cl k) r (fun y => y) x ≤ x := by
    intro r
    induction r with
    | zero => exact fun x => Nat.le_refl x
    | succ r ih => exact fun x => Nat.le_trans (lbp_dn k x) (ih x)
  refine ⟨hd R x, hc R x, ?_⟩
  obtain ⟨ρ, h1, h2⟩ := pk_least (fun y => cn k u v cl x y) ⟨x, cn_rf x⟩
  have hρ : ρ ≤ x := Nat.le_of_not_lt fun q => h2 x q (cn_rf x)
  have low : ∀ {z y}, cn k u v cl z ρ → cn k u v cl z y → ρ ≤ y := fun hz hy => Nat.le_of_not_lt fun q => h2 _ q (cn_tr h1 (cn_tr (cn_sy hz) hy))
  have key := clos (cl := cl) hn (fun r x => decide (itl (lbp u v cl k) r (fun y => y) x = ρ)) (a := ρ) (by omega)
    (by simp [itl]) (fun r y h => by
      have h : itl (lbp u v cl k) r (fun y => y) y = ρ := by simpa using h
      have a1 : itl (lbp u v cl k) (r + 1) (fun y => y) y ≤ ρ := by rw [← h]; exact lbp_dn k y
      have a2 := low (by have := hc r y; rw [h] at this; exact this) (hc (r + 1) y)
      simp; omega)
    (fun r j hj hcl h => by
      have h : itl (lbp u v cl k) r (fun y => y) (u j) = ρ ∨ itl (lbp u v cl k) r (fun y => y) (v j) = ρ := by simpa using h
      have e := cn_ed (u := u) (v := v) (k := k) (i := j) hj hcl
      have hu : cn k u v cl (u j) ρ := by
        rcases h with h | h
        · have := hc r (u j); rw [h] at this; exact this
        · have := hc r (v j); rw [h] at this; exact cn_tr e this
      have hv : cn k u v cl (v j) ρ := cn_tr (cn_sy e) hu
      have b1 := low hu (hc (r + 1) (u j))
      have b2 := low hv (hc (r + 1) (v j))
      have c0 := lbp_le (u := u) (v := v) (cl := cl) (f := itl (lbp u v cl k) r (fun y => y)) (i := j + 1) (j := k) hj
      have d1 := c0 (u j)
      have d2 := c0 (v j)
      have p1 := lbp_dn (u := u) (v := v) (cl := cl) (f := itl (lbp u v cl k) r (fun y => y)) j (u j)
      have p2 := lbp_dn (u := u) (v := v) (cl := cl) (f := itl (lbp u v cl k) r (fun y => y)) j (v j)
      simp only [lbp, hcl, true_or, or_true, and_self, if_true] at d1 d2
      have q1 : itl (lbp u v cl k) (r + 1) (fun y => y) (u j) = lbp u v cl k (itl (lbp u v cl k) r (fun y => y)) (u j) := rfl
      have q2 : itl (lbp u v cl k) (r + 1) (fun y => y) (v j) = lbp u v cl k (itl (lbp u v cl k) r (fun y => y)) (v j) := rfl
      simp only [decide_eq_true_eq]
      rw [q1] at b1 ⊢
      rw [q2] at b2 ⊢
      constructor
      · rcases h with h | h <;> split at d1 <;> omega
      · rcases h with h | h <;> split at d2 <;> omega)
    (fun r h y => by
      have h : ∀ j, j < k → cl j = true → (itl (lbp u v cl k) r (fun y => y) (u j) = ρ ↔ itl (lbp u v cl k) r (fun y => y) (v j) = ρ) := by
        intro j hj hcl
        have := h j hj hcl
        simpa using this
      have hall : ∀ z, cn k u v cl ρ z → itl (lbp u v cl k) r (fun y => y) z = ρ := by
        intro z hz
        refine hz (fun z => itl (lbp u v cl k) r (fun y => y) z = ρ) ?_ h
        have a1 := hd r ρ
        have a2 := low (cn_rf ρ) (hc r ρ)
        omega
      have e1 : ∀ r', itl (lbp u v cl k) r' (fun y => y) y = ρ → cn k u v cl ρ y := fun r' hq => by
        have := hc r' y
        rw [hq] at this
        exact cn_sy this
      by_cases hy : cn k u v cl ρ y
      · have a := hall y hy
        have b : itl (lbp u v cl k) (r + 1) (fun y => y) y = ρ := by
          have a1 : itl (lbp u v cl k) (r + 1) (fun y => y) y ≤ itl (lbp u v cl k) r (fun y => y) y := lbp_dn k y
          have a2 := low (cn_sy hy) (hc (r + 1) y)
          omega
        simp [a, b]
      · have a : ¬ itl (lbp u v cl k) r (fun y => y) y = ρ := fun q => hy (e1 r q)
        have b : ¬ itl (lbp u v cl k) (r + 1) (fun y => y) y = ρ := fun q => hy (e1 (r + 1) q)
        simp [a, b]) R hR
  have hxρ : itl (lbp u v cl k) R (fun y => y) x = ρ := by
    have h3 := cn_sy h1
    refine h3 (fun z => itl (lbp u v cl k) R (fun y => y) z = ρ) ?_ (fun j hj hcl => ?_)
    · have a1 := hd R ρ
      have a2 := low (cn_rf ρ) (hc R ρ)
      omega
    · have := key j hj hcl
      simpa using this
  intro y hy
  rw [hxρ]
  exact Nat.le_of_not_lt fun q => h2 y q hy
