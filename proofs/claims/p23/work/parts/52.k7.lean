section GN7
variable {l : Launch} {w : Wp} {L : Ly} {E : Cx} {M : Mm} {lv : List (Nat × Value)} {pc : Nat} {st : List Value} {own : String} {cc : ByteArray} {maxL n : Nat} {h0 sz cells slots : Nat} {P : va_W}
theorem n_getR (cx : OkN w E own cc maxL n h0) {a ci N index : Nat} {C ref : String} {T : u_T} (hc : vwCl[ci]? = some (C, T, N)) (hin : ∀ q ∈ u_ws C T N, q ∈ TB) (q0 : Nat) {fs : List Value} (he : P[q0]? = some (a, .inr (ci, fs))) (k : Nat) (hk : k < N) (hlink : Cond.fieldLink own index ref (T k).2.1 (T k).2.2.1 ∈ TB) (hsame : (T k).1 = ref) {v : Value} (hv : fs[k]? = some v)
    (hd : decode cc pc = .ok (.getfield index, 3)) (kk : GN l w L E M h0 sz P cells slots lv (pc + 3) (v :: st)) : GN l w L E M h0 sz P cells slots lv pc (.ref a :: st) := by
  intro H locs ls h1 h2 h3 h4 h5
  exact va_get (D := w.1) cx.1 cx.2.1 cx.2.2.2.2.1 hin cx.2.2.2.1 cx.2.2.2.2.2.1.1 h2 q0 he hc k hk (cx.2.2.2.2.1 _ hlink) (fun x h => by rw [← hsame]; exact h) hv hd (kk H locs ls h1 h2 h3 h4 h5)
theorem p_push {e : va_E} {H H1 : Heap} (h2 : va_P w.1 vwCl P H) (hP : ∀ x ∈ P, x.1 < sz) (o1 : ∀ q, q < sz → H1[q]? = H[q]?) (he : va_at w.1 vwCl (sz, e) H1) : va_P w.1 vwCl (P ++ [(sz, e)]) H1 := by
  intro k q hq
  by_cases c : k < P.length
  · rw [List.getElem?_append_left c] at hq
    exact at_same (h2 k q hq) (o1 _ (hP q (List.mem_of_getElem? hq)))
  · rw [List.getElem?_append_right (by omega)] at hq
    have z := (List.getElem?_eq_some_iff.mp hq).1
    simp at z
    rw [show k - P.length = 0 by omega] at hq
    cases hq
    exact he
/-- a new row of ints, under way -/
theorem n_newaP (cx : OkN w E own cc maxL n h0) (harr : Cond.arrayClass .int ∈ TB) {x : Int32} {N : Nat} (hx : ¬ x < 0) (hN : x.toNatClampNeg = N) (hb : N * componentBytes (newarray.typeOf .int) ≤ 536870912) (hc : cells + 1 ≤ (xR E).cells) (hs : slots + N ≤ (xR E).slots)
    (hz : h0 ≤ sz) (hP : ∀ x ∈ P, x.1 < sz) (hd : decode cc pc = .ok (.newarray .int, 2)) (k : GN l w L E M h0 (sz + 1) (P ++ [(sz, .inl (w.2.1, N, .inl (fun _ => 0)))]) (cells + 1) (slots + N) lv (pc + 2) (.ref sz :: st)) : GN l w L E M h0 sz P cells slots lv pc (.int x :: st) := by
  intro H locs ls h1 h2 h3 h4 h5
  refine va_newaK (atype := .int) cx.1 cx.2.1 (cx.2.2.2.2.1 _ harr) rfl hd rfl hx hN hb hc hs h1 fun H1 cA e1 z1 o1 hAr hNm => ?_
  have e := ra_I cx hNm
  subst e
  refine k H1 locs ls z1 (p_push h2 hP o1 e1) (fun a a1 a2 a3 g hg => ?_) ⟨by rw [z1]; have := h4.1; omega, fun q q1 q2 => ?_, h4.2.2⟩ h5
  · have hne : a ≠ sz := fun c => a3 (sz, _) (List.mem_append_right _ (List.mem_singleton.mpr rfl)) c.symm
    exact at_same (h3 a a1 (by omega) (fun x hx => a3 x (List.mem_append_left _ hx)) g hg) (o1 _ (by omega))
  · have h7 := h4.1
    rw [o1 q (by omega)]
    exact h4.2.1 q q1 q2
theorem n_iast (cx : OkN w E own cc maxL n h0) {a m : Nat} {f : Nat → Int32} (hD : va_D (xF E) P) (q0 : Nat) (he : P[q0]? = some (a, .inl (w.2.1, m, .inl f))) {i x : Int32} (hin : vp_in i m) (hd : decode cc pc = .ok (.iastore, 1)) (kk : GN l w L E M h0 sz (P.set q0 (a, .inl (w.2.1, m, .inl (upd f (ix i) x)))) cells slots lv (pc + 1) st) : GN l w L E M h0 sz P cells slots lv pc (.int x :: .int i :: .ref a :: st) := by
  intro H locs ls h1 h2 h3 h4 h5
  have hc : H[a]? = some (arrV w.2.1 m (fun j => .int (f j))) := h2 q0 _ he
  refine W.iast cx.1 cx.2.1 hc (cx.2.2.2.2.2.1.i.1 m _) (fun q => by cases q) (by rw [arrV_size]; exact hin) rfl rfl hd fun H1 e z oq => ?_
  have hx : va_at w.1 vwCl (a, .inl (w.2.1, m, .inl (upd f (ix i) x))) H1 := by
    show H1[a]? = some (arrV w.2.1 m (fun j => .int (upd f (ix i) x j)))
    rw [e, arrV_store]
    congr 2
    funext q
    by_cases hq : q = i.toNatClampNeg
    · subst hq; simp [updV, upd]
    · simp [updV, upd, hq]
  exact kk H1 _ ls (z.trans h1) (h2.set hD he hx oq) (n_keep h3 fun b b1 b2 b3 => ⟨set_fst he b3, oq b fun c => set_fst he b3 _ (List.mem_of_getElem? he) c.symm⟩) (h4.put z oq (hD.2 q0 _ he)) h5
/-- a cell under way is done -/
theorem n_drop {a : Nat} {e : va_E} (hcell : ∀ g, L a = some g → g (M a) = e) (kk : GN l w L E M h0 sz P cells slots lv pc st) : GN l w L E M h0 sz (P ++ [(a, e)]) cells slots lv pc st := by
  intro H locs ls h1 h2 h3 h4 h5
  refine kk H locs ls h1 (fun k q hq => h2 k q ?_) (fun b b1 b2 b3 g hg => ?_) h4 h5
  · rw [List.getElem?_append_left (List.getElem?_eq_some_iff.mp hq).1]
    exact hq
  · by_cases c : b = a
    · subst c
      rw [hcell g hg]
      exact h2 P.length (b, e) (by rw [List.getElem?_append_right (Nat.le_refl _), Nat.sub_self]; rfl)
    · exact h3 b b1 b2 (fun x hx => by
        rcases List.mem_append.mp hx with h | h
        · exact b3 x h
        · rw [List.mem_singleton.mp h]
          exact fun z => c z.symm) g hg
/-- a new row of wires, under way -/
theorem n_anew (cx : OkN w E own cc maxL n h0) {index : Nat} (hcl : Cond.classLink own index RX7 ∈ TB) {x : Int32} {N : Nat} (hx : ¬ x < 0) (hN : x.toNatClampNeg = N) (hb : N * 4 ≤ 536870912) (hc : cells + 1 ≤ (xR E).cells) (hs : slots + N ≤ (xR E).slots)
    (hz : h0 ≤ sz) (hP : ∀ x ∈ P, x.1 < sz) (hd : decode cc pc = .ok (.anewarray index, 3)) (k : GN l w L E M h0 (sz + 1) (P ++ [(sz, .inl (w.2.2.2.1, N, .inr (.inr (.inr (.inr (fun _ => none))))))]) (cells + 1) (slots + N) lv (pc + 3) (.ref sz :: st)) : GN l w L E M h0 sz P cells slots lv pc (.int x :: st) := by
  intro H locs ls h1 h2 h3 h4 h5
  subst hN
  subst h1
  have hts := cx.2.2.2.2.1
  refine W.anew cx.1 cx.2.1 cx.2.2.2.1 (hts _ hcl) (va_AO.use cx.2.2.2.2.2.2.2.2.2.2) rfl hd rfl hx hb hc hs fun cA kA comp f1 f2 f3 f4 => ?_
  have ec : cA = w.2.2.2.1 := Option.some.inj (f1.symm.trans cx.2.2.2.2.2.1.r.2.choose_spec.choose_spec.2.2.2)
  subst ec
  generalize hH1 : H.push ({ cls := w.2.2.2.1, slots := Array.replicate x.toNatClampNeg .null, vm := .none } : Cell) = H1
  have z1 : H1.size = H.size + 1 := by rw [← hH1, Array.size_push]
  have e1 : H1[H.size]? = some (arrV w.2.2.2.1 x.toNatClampNeg (fun _ => .null)) := by rw [← hH1, Array.getElem?_push_size, ← arrV_new]
  have o1 : ∀ q : Nat, q < H.size → H1[q]? = H[q]? := fun q hq => by rw [← hH1, Array.getElem?_push, if_neg (Nat.ne_of_lt hq)]
  refine k H1 locs ls z1 (p_push h2 hP o1 e1) (fun a a1 a2 a3 g hg => ?_) ⟨by rw [z1]; have := h4.1; omega, fun q q1 q2 => ?_, h4.2.2⟩ h5
  · have hne : a ≠ H.size := fun c => a3 (H.size, _) (List.mem_append_right _ (List.mem_singleton.mpr rfl)) c.symm
    exact at_same (h3 a a1 (by omega) (fun x hx => a3 x (List.mem_append_left _ hx)) g hg) (o1 _ (by omega))
  · have h7 := h4.1
    rw [o1 q (by omega)]
    exact h4.2.1 q q1 q2
theorem n_aast (cx : OkN w E own cc maxL n h0) {a m v : Nat} {f : Nat → Option Nat} (hD : va_D (xF E) P) (q0 : Nat) (he : P[q0]? = some (a, .inl (w.2.2.2.1, m, .inr (.inr (.inr (.inr f)))))) {ks : List (Option Nat)} (hL : L v = some (gO 7 ks)) (v1 : h0 ≤ v) (v2 : v < sz) (v3 : ∀ x ∈ P, x.1 ≠ v) {i : Int32} (hin : vp_in i m) (hd : decode cc pc = .ok (.aastore, 1)) (kk : GN l w L E M h0 sz (P.set q0 (a, .inl (w.2.2.2.1, m, .inr (.inr (.inr (.inr (va_up f i.toNatClampNeg (some v)))))))) cells slots lv (pc + 1) st) : GN l w L E M h0 sz P cells slots lv pc (.ref v :: .int i :: .ref a :: st) := by
  intro H locs ls h1 h2 h3 h4 h5
  have hlt : i.toNatClampNeg < m := Nat.not_le.mp fun q => hin (Or.inr q)
  have hi0 : ¬ i < 0 := fun q => hin (Or.inl q)
  have hc : H[a]? = some (arrV w.2.2.2.1 m (fun j => va_rf (f j))) := h2 q0 _ he
  obtain ⟨r', hr', cellV, g1, g2, g3, -⟩ := h3 v v1 v2 v3 _ hL
  have hcls := (cx.2.2.2.2.2.1.1.1 7 _ (show vwCl[7]? = some (RX7, TX7, 5) from rfl)).2
  obtain ⟨kA, comp, k1, k2, k3, -⟩ := cx.2.2.2.2.2.1.r.2
  have hcomp : comp = w.1.1 7 := Option.some.inj (k3.symm.trans hcls.1)
  subst hcomp
  obtain ⟨kC, hkC, -⟩ := hcls.2
  refine W.aast cx.1 cx.2.1 hc (fun q h => by cases h) (fun h => by cases h) k1 k2 rfl hkC ⟨hi0, by rw [arrV_size]; exact hlt⟩ g1 (fun q h => by rw [g3] at h; cases h) (by rw [g2]; exact hkC) (by rw [g2]; exact va_assign hcls) rfl rfl hd fun H1 e z oq => ?_
  have hx : va_at w.1 vwCl (a, .inl (w.2.2.2.1, m, .inr (.inr (.inr (.inr (va_up f i.toNatClampNeg (some v))))))) H1 := by
    show H1[a]? = some (arrV w.2.2.2.1 m (fun j => va_rf (va_up f i.toNatClampNeg (some v) j)))
    rw [e, arrV_store]
    congr 2
    funext q
    by_cases hq : q = i.toNatClampNeg
    · subst hq; simp [updV, va_up, va_rf]
    · simp [updV, va_up, hq]
  exact kk H1 _ ls (z.trans h1) (h2.set hD he hx oq) (n_keep h3 fun b b1 b2 b3 => ⟨set_fst he b3, oq b fun c => set_fst he b3 _ (List.mem_of_getElem? he) c.symm⟩) (h4.put z oq (hD.2 q0 _ he)) h5
theorem n_icmp_ge (cx : OkN w E own cc maxL n h0) {off : Int} {tgt : Nat} {x y : Int32} (hd : decode cc pc = .ok (.if_icmp .ge off, 3)) (ht : (pc : Int) + off = (tgt : Int)) (ka : x < y → GN l w L E M h0 sz P cells slots lv (pc + 3) st) (kb : ¬ x < y → GN l w L E M h0 sz P cells slots lv tgt st) : GN l w L E M h0 sz P cells slots lv pc (.int y :: .int x :: st) :=
  fun H locs ls h1 h2 h3 h4 h5 => lv_icmp_ge cx.1 cx.2.1 hd ht (fun h => kb (Int32.not_lt.mpr h) H locs ls h1 h2 h3 h4 h5) (fun h => ka (Int32.not_le.mp h) H locs ls h1 h2 h3 h4 h5)
theorem n_iinc (cx : OkN w E own cc maxL n h0) {i : Nat} {c : Int} {x v : Int32} (lv' : List (Nat × Value)) (hd : decode cc pc = .ok (.iinc i c, 3)) (p : Nat) (hp : lv[p]? = some (i, .int x)) (hv : x + Int32.ofInt c = v) (hn : i < maxL) (hl : (i, Value.int v) :: lv.filter (fun q => !(q.1 == i) && !(q.1 + 1 == i && q.2.category == 2)) = lv') (k : GN l w L E M h0 sz P cells slots lv' (pc + 3) st) : GN l w L E M h0 sz P cells slots lv pc st :=
  fun H locs _ h1 h2 h3 h4 h5 => lv_iinc cx.1 cx.2.1 hd h5 hp hv (by rw [cx.2.2.1]; exact hn) hl (fun ls h => k H locs ls h1 h2 h3 h4 h)
end GN7
section CT8
theorem d_two {a b : Nat} {e e' : va_E} {A : Nat → Prop} (h : A a) (h' : A b) (hne : a ≠ b) : va_D A [(a, e), (b, e')] := ⟨fun i j p q h1 h2 h3 => by
    have a1 := (List.getElem?_eq_some_iff.mp h1).1
    have a2 := (List.getElem?_eq_some_iff.mp h2).1
    simp at a1 a2
    match i, j, h1, h2 with
    | 0, 0, _, _ => rfl
    | 1, 1, _, _ => rfl
    | 0, 1, h1, h2 => cases h1; cases h2; exact absurd h3 hne
    | 1, 0, h1, h2 => cases h1; cases h2; exact absurd h3.symm hne
    | i + 2, _, _, _ => omega
    | 0, j + 2, _, _ => omega
    | 1, j + 2, _, _ => omega, fun k q hq => by
    match k, hq with
    | 0, hq => cases hq; exact h
    | 1, hq => cases hq; exact h'
    | k + 2, hq => simp at hq⟩
theorem lt_two {a b sz : Nat} {e e' : va_E} (h : a < sz) (h' : b < sz) : ∀ x ∈ [(a, e), (b, e')], x.1 < sz := fun x hx => by
  rcases List.mem_cons.mp hx with rfl | hx
  · exact h
  · rw [List.mem_singleton.mp hx]; exact h'
end CT8
