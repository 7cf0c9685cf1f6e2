/-! the methods that make objects, as contracts -/
def ZT (X : Nat) (v : Value) (w2 : Wp) (L2 : Ly) (M2 : Mm) (w : Wp) : Prop := ∃ Y, X ≤ Y ∧ v = .ref Y ∧ w2 = wB w Y ∧ L2 = lyG (wB w Y) Y noL ∧ P M2 Y (lk D5) h3 []
def QT (w : Wp) (X : Nat) : Array Value → State → Outcome → State → Prop := fun _ s o t => ∃ v w2 L2 M2, ZT X v w2 L2 M2 w ∧ o = .returned (some v) ∧ HM w2 L2 M2 t.heap ∧ va_F (fun q => X ≤ q) s t
theorem lyG_ge {w : Wp} {X x : Nat} (hx : x ≤ X) : ∀ q, lyG w X noL q ≠ none → x ≤ q := fun _ h => Nat.le_trans hx (ly_lt w X h).1
theorem kn_three (X : Nat) : Gd (Kn3 X) (f_L_three_7 X (M00 X)) := ke_7 ((p_00 X).nrm (by decide +kernel))
theorem cn_three (l : Launch) (w : Wp) (X : Nat) : Cn l w yL_three cL_three 2 (some (.object "TramWires")) 7 233 2922 (QT w X) X := by
  refine Cn_of (by decide) ?_
  intro E cx hX h0 h1 hc hs hQ hF hR hl
  refine g_newT (pc := 0) cx (by decide) cl_L_14 tm_L_94 (by omega) (by omega) (by decide) dL_three_0 dL_three_3 dL_three_4 fun Y hY => ?_
  obtain ⟨R0, e, k0, k⟩ := kn_three Y
  rw [h0, h1]
  refine c_L_three_7 (R0 := R0) ((cx.nw Y (0 + 233) (0 + 2922)).ok (lyG_ge hY) (by show 0 + 233 ≤ (xR E).cells; rw [hc]; exact Nat.le_refl _) (by show 0 + 2922 ≤ (xR E).slots; rw [hs]; exact Nat.le_refl _)) ⟨fun t ht => ?_, hR, hl⟩ (ly_T _ _ _ rfl) e
  show xQ E t
  rw [hQ]
  obtain ⟨o, t1, t2, ⟨q1, q2, q3⟩, t4⟩ := ht
  refine ⟨o, t1, t2, ⟨_, _, _, _, ⟨Y, by rw [← hX]; exact hY, rfl, rfl, rfl, k⟩, q1, q2, ?_⟩, ?_⟩
  · have q3 : va_F (xF E) (xS E) t := q3
    rw [hF] at q3
    exact q3
  · have t4 : ∃ L, FrameEnd (xS E) o t L (0 + 233) (0 + 2922) ∧ ∀ q ∈ L, xF E q.base := t4
    rw [hF] at t4
    exact t4
def ZB (v : Value) (w2 : Wp) (L2 : Ly) (w : Wp) : Prop := v = .int 1 ∧ w2 = w ∧ L2 = noL
theorem cn_texts (l : Launch) (w : Wp) (X : Nat) : Cn l w yL_texts cL_texts 4 (some .boolean) 8 233 2922 (QB (fun q => X ≤ q)) X := by
  refine Cn_of (by decide) ?_
  intro E cx hX h0 h1 hc hs hQ hF hR hl
  refine g_callC (pc := 0) cx lk_L_95 (by decide) (cn_three l w) (by omega) (by omega) dL_texts_0 (by decide) (fun X v w2 L2 M2 => ZT X v w2 L2 M2 w) (fun X a s o t h => h) ?_
  intro X1 v w2 L2 M2 hX1 ⟨Y, hY, e1, e2, e3, HP⟩
  subst e1 e2 e3
  obtain ⟨R0, e, k⟩ := kt_3 HP
  rw [h0, h1]
  refine c_L_texts_3 (R0 := R0) ((cx.nw Y (0 + 233) (0 + 2922)).ok (lyG_ge (Nat.le_trans hX1 hY)) (by show 0 + 233 ≤ (xR E).cells; rw [hc]; exact Nat.le_refl _) (by show 0 + 2922 ≤ (xR E).slots; rw [hs]; exact Nat.le_refl _)) ⟨?_, k, hR, hl⟩ (ly_T _ _ _ rfl) e
  show xQ E = MQ (xB E) (QB (xF E)) (xA E) (xS E) (0 + 233) (0 + 2922) (xF E)
  rw [hQ, hF]
theorem cn_known (l : Launch) (w : Wp) (X : Nat) : Cn l w yL_known cL_known 2 (some .boolean) 8 233 2922 (QB (fun q => X ≤ q)) X := by
  refine Cn_of (by decide) ?_
  intro E cx hX h0 h1 hc hs hQ hF hR hl
  refine g_callC (pc := 0) cx lk_L_95 (by decide) (cn_three l w) (by omega) (by omega) dL_known_0 (by decide) (fun X v w2 L2 M2 => ZT X v w2 L2 M2 w) (fun X a s o t h => h) ?_
  intro X1 v w2 L2 M2 hX1 ⟨Y, hY, e1, e2, e3, HP⟩
  subst e1 e2 e3
  obtain ⟨R0, e, k⟩ := kn_3 HP
  rw [h0, h1]
  refine c_L_known_3 (R0 := R0) ((cx.nw Y (0 + 233) (0 + 2922)).ok (lyG_ge (Nat.le_trans hX1 hY)) (by show 0 + 233 ≤ (xR E).cells; rw [hc]; exact Nat.le_refl _) (by show 0 + 2922 ≤ (xR E).slots; rw [hs]; exact Nat.le_refl _)) ⟨?_, k, hR, hl⟩ (ly_T _ _ _ rfl) e
  show xQ E = MQ (xB E) (QB (xF E)) (xA E) (xS E) (0 + 233) (0 + 2922) (xF E)
  rw [hQ, hF]
