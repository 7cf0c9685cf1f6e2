section GN3
variable {l : Launch} {w : Wp} {L : Ly} {E : Cx} {M : Mm} {lv : List (Nat × Value)} {pc : Nat} {st : List Value} {own : String} {cc : ByteArray} {maxL n : Nat} {h0 sz cells slots : Nat} {P : va_W}
theorem n_vret (cx : OkN w E own cc maxL n h0) {K sl ci : Nat} {fs : List Value} (en : EnN w L E M h0 K sl) (hz : sz = h0 + K) (hcell : ∀ g, L h0 = some g → g (M h0) = .inr (ci, fs)) (hd : decode cc pc = .ok (.return_, 1)) : GN l w L E M h0 sz [(h0, .inr (ci, fs))] (K - 1) sl lv pc [] := by
  intro H locs ls h1 h2 h3 h4 h5
  obtain ⟨e1, e2, e3, e4, -⟩ := en
  rw [e1]
  refine W.vret cx.1 cx.2.1 e3 (fun t ht hW => ⟨rfl, by rw [ht, h1, hz], fun a a1 a2 g hg => ?_, by rw [e2] at h4; exact h4.F ht⟩) (by have h6 := h4.2.2; rw [e2] at h6; exact h6) hd e4
  rw [ht]
  by_cases e : a = h0
  · subst e
    rw [hcell g hg]
    exact h2 0 _ rfl
  · exact h3 a a1 (by omega) (fun x hx => by
      rw [List.mem_singleton.mp hx]
      exact Ne.symm e) g hg
/-- what is known stays known where the heap is unchanged -/
theorem at_same {x : Nat × va_E} {H H1 : Heap} (h : va_at w.1 vwCl x H) (e : H1[x.1]? = H[x.1]?) : va_at w.1 vwCl x H1 := by
  unfold va_at at h ⊢
  split
  · rename_i y hy
    rw [hy] at h
    show H1[x.1]? = _
    rw [e]
    exact h
  · rename_i y hy
    rw [hy] at h
    obtain ⟨r, r1, r2⟩ := h
    exact ⟨r, r1, r2.kept e⟩
/-- behind a constructor's call -/
theorem n_back (cx : OkN w E own cc maxL n h0) {K s1 : Nat} {H : Heap} {locs : List Loc} {ls : Array Slot} {stk st' : List Value} {av : Array Value} (hz : h0 ≤ sz) (hK : 1 ≤ K) (h1 : H.size = sz + 1) (h2 : va_P w.1 vwCl P H) (hP : ∀ x ∈ P, x.1 < sz)
    (h3 : ∀ a, h0 ≤ a → a < sz → (∀ x ∈ P, x.1 ≠ a) → ∀ g, L a = some g → va_at w.1 vwCl (a, g (M a)) H) (h4 : va_S (xF E) (xS E).heap H locs) (h5 : lv_has ls (xC E).maxLocals lv)
    (hr : va_Run (xP E) l (xE E) (xR E) (xS E) (xM E) (xA E) (xB E) (xY E) (xC E) H locs cells slots (K - 1) s1 (F0 (xM E) pc ls stk) st' (QN w L M sz K av) (fun q => sz ≤ q))
    (kk : GN l w L E M h0 (sz + K) P (cells + (K - 1)) (slots + s1) lv (pc + 3) st') : W (xP E) l (xE E) (xR E) (xS E) (xM E) (xA E) (xB E) (xY E) (xC E) H locs cells slots (xQ E) (F0 (xM E) pc ls stk) := by
  intro T hT X
  obtain ⟨v, st₀, t, T', Lw, g0, X', hL, e1, e2, ⟨hv, hs, hb, hz2, hk⟩, stp⟩ := hr T hT X
  cases hv
  rw [g0] at hz2 hk
  have sub := cx.2.2.2.2.2.2.1
  obtain ⟨t2, a1, b1⟩ := kk T'.heap (locs ++ Lw) ls (by rw [e1]; exact hs) (fun k q hq => at_same (h2 k q hq) (by
      have := hP q (List.mem_of_getElem? hq)
      rw [e1]
      exact hk q.1 (by omega) (by omega))) (fun a a1 a2 a3 g hg => by
      rw [e1]
      by_cases c : a < sz
      · exact at_same (h3 a a1 c a3 g hg) (hk a (by omega) (by omega))
      · exact hb a (by omega) a2 g hg)
    ⟨Nat.le_trans h4.1 (by rw [e1]; exact hz2), fun q q1 q2 => by
      have hq : q < sz := by
        rcases Nat.lt_or_ge q sz with c | c
        · exact c
        · exact absurd ((sub q).mp (by omega)) q2
      rw [e1, hk q (by omega) (by omega)]
      exact h4.2.1 q q1 q2, fun q hq => by
      rcases List.mem_append.mp hq with h | h
      · exact h4.2.2 q h
      · exact (sub _).mp (by have := hL q h; omega)⟩ h5 T' rfl X'
  exact ⟨t2, stp t2 a1, b1⟩
/-- a new object and its constructor, of a nest mate -/
theorem n_newN (cx : OkN w E own cc maxL n h0) {index idx2 : Nat} {C host : String} {T : u_T} {N ci : Nat} (hc : vwCl[ci]? = some (C, T, N)) (hin : ∀ q ∈ u_ws C T N, q ∈ TB) (ty : Nat → FieldType) (hty : ∀ k, k < N → parseFieldDescriptor (T k).2.2.1 = some (ty k)) (hcl : Cond.classLink own index C ∈ TB) (hinst : Cond.instantiable C N ∈ TB) (hini : Cond.initialized C ∈ TB) {fs : List Value} (hfs : ∀ j, j < N → defaultValue (ty j) = vp_V fs j)
    {y : MethodName} {c1 : ByteArray} {m1 n1 K s1 : Nat} (hM : CN l w L M y c1 m1 n1 ci fs K s1 sz) (k1 : Cond.methodLinkNest own idx2 y host ∈ nwL) (k2 : Cond.instanceMethod y ∈ TB) (k4 : Cond.initialized y.cls ∈ TB) (k5 : Cond.code y c1 m1 none ∈ TB) (k6 : (y.cls ≠ "java/lang/invoke/MethodHandle" ∧ y.cls ≠ "java/lang/invoke/VarHandle") ∧ (parseMethodDescriptor y.desc).map (fun d => d.parameters.length) = some 0) (k7 : y.name = "<init>") (k9 : m1 ≤ 13) (hn : n1 + 1 ≤ n)
    (hz : h0 ≤ sz) (hK : 1 ≤ K) (hP : ∀ x ∈ P, x.1 < sz) (hcells : cells + K ≤ (xR E).cells) (hslots : slots + N + s1 ≤ (xR E).slots) (hst : ((Value.ref sz :: st).map fun v => v.category).sum ≤ 8)
    (hd0 : decode cc pc = .ok (.new index, 3)) (hd1 : decode cc (pc + 3) = .ok (.dup, 1)) (hd2 : decode cc (pc + 3 + 1) = .ok (.invokespecial idx2, 3)) (kk : GN l w L E M h0 (sz + K) P (cells + 1 + (K - 1)) (slots + N + s1) lv (pc + 3 + 1 + 3) (.ref sz :: st)) : GN l w L E M h0 sz P cells slots lv pc st := by
  intro H locs ls h1 h2 h3 h4 h5
  have hts := cx.2.2.2.2.1
  have hKn := cx.2.2.2.2.2.1.1.1 ci _ hc
  have sub := cx.2.2.2.2.2.2.1
  refine W.newcK cx.1 cx.2.1 cx.2.2.2.1 (hts _ hcl) (hts _ hinst) (hts _ hini) rfl hd0 (by omega) (by omega) hKn.2.1 h1 fun H1 kC hkC e1 z1 o1 => ?_
  have hob : va_at w.1 vwCl (sz, .inr (ci, fs)) H1 := ⟨_, hc, (u_born ty hts hin hKn hkC e1 hty).to hfs⟩
  refine lv_dup cx.1 cx.2.1 hd1 rfl ?_
  have f1 := cx.2.2.2.2.2.2.2.1
  have f2 := cx.2.2.2.2.2.2.2.2.1
  refine n_back cx hz hK z1 (fun k q hq => at_same (h2 k q hq) (o1 _ (hP q (List.mem_of_getElem? hq)))) hP (fun a a1 a2 a3 g hg => at_same (h3 a a1 a2 a3 g hg) (o1 _ a2)) ⟨by rw [z1]; have := h4.1; omega, fun q q1 q2 => by
      have := h4.1
      rw [o1 q (by omega)]
      exact h4.2.1 q q1 q2, h4.2.2⟩ h5
    (va_runIN (As := []) (rest := .ref sz :: st) (b := sz) (nL := maxL) (n := 0) (host := host) ⟨cx.1, cx.2.1, cx.2.2.1, cx.2.2.2.1, hts⟩ hM ⟨⟨⟨rfl, rfl, by show n1 + 1 ≤ _; omega, by show 8 + (m1 + 11) + 32 * n1 ≤ _; omega, pay_tb hts k5, List.mem_cons_self⟩, hts _ k5, hts _ k4, k6.1, fun sig h => ?_, va_Nw.use rfl (cx.2.2.2.2.2.1.2 _ k1)⟩, k7, hts _ k2⟩ ⟨fb_PcN, fun U hU hW => ⟨rfl, by rw [hU]; exact z1, by rw [hU]; exact hob, cx.2.2.2.2.2.1.warm hW, va_AO.moved hW.alike cx.2.2.2.2.2.2.2.2.2.2⟩⟩ rfl rfl (by rw [← cx.2.2.1]; exact h5.1) rfl (lv_room hst) hd2 ⟨by omega, by omega⟩) kk
  have h8 := k6.2
  rw [h] at h8
  exact (Option.some.inj h8).symm
end GN3
