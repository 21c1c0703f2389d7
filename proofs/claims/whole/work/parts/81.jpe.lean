section JPI
variable {mn : tc_mn} {sc : tc_sc} {CS : Nat → List sp_Cl} {ns n : Nat} {ln : Nat → Nat} {cl : List sp_Cl} {q z : Nat} {T : Nat → Nat} {nf : Nat} {K : tc_K} {I : Nat → Int32} {A : Nat → Nat → Int32} {L : Nat → Nat → Int64} {r : tc_r} {j0 : Nat → Int32} {b0 : Nat → Nat → Int32} {w0 : Nat → Option Nat} {v0 : Nat} {the men tn up fl sn bn : Int32} {a5 a6 a7 a8 a9 a10 a43 a45 a46 : Nat → Int32}
theorem z4_at {f : Nat → Int32} {m i : Nat} : mo_z4 f m 4 i = if 4 * m ≤ i ∧ i < 4 * m + 4 then 0 else f i := by
  show (if i = 4 * m + 3 then 0 else if i = 4 * m + 2 then 0 else if i = 4 * m + 1 then 0 else if i = 4 * m + 0 then 0 else f i) = _
  by_cases c : 4 * m ≤ i ∧ i < 4 * m + 4
  · rw [if_pos c]
    rcases (show i = 4 * m + 3 ∨ i = 4 * m + 2 ∨ i = 4 * m + 1 ∨ i = 4 * m + 0 by omega) with e | e | e | e
    · rw [if_pos e]
    · rw [if_neg (by omega), if_pos e]
    · rw [if_neg (by omega), if_neg (by omega), if_pos e]
    · rw [if_neg (by omega), if_neg (by omega), if_neg (by omega), if_pos e]
  · rw [if_neg c, if_neg (by omega), if_neg (by omega), if_neg (by omega), if_neg (by omega)]
/-- a snapshot copied, on both sides -/
theorem js.cpy {j1 j2 j3 : Nat → Int32} {b1 b2 b3 : Nat → Nat → Int32} {w2 : Nat → Option Nat} {c5 c6 c7 c8 c9 c10 c43 c45 c46 : Nat → Int32} (h : js mn sc CS ns j0 b0 w0 v0 the men tn up fl sn bn a5 a6 a7 a8 a9 a10 a43 a45 a46 n ln cl q z) (hc : si_cp j0 j1 j2 b0 b1 b2 w0 w2) (hn : si_cn j0 j2 j3 b0 b2 b3) (e5 : ∀ i, i < 6 → c5 i = a5 i) (e6 : ∀ i, i < 6 → c6 i = a6 i) (e7 : ∀ i, i < 6 → c7 i = a7 i) (e8 : ∀ i, i < 6 → c8 i = a8 i) (e9 : ∀ i, i < 24 → c9 i = a9 i) (e10 : ∀ i, i < 6 → c10 i = a10 i) (e43 : ∀ i, i < 6 → c43 i = a43 i) (e45 : ∀ i, i < 8 → c45 i = a45 i) (e46 : ∀ i, i < 8 → c46 i = a46 i) : js mn sc CS ns j3 b3 w2 v0 the men tn up fl sn bn c5 c6 c7 c8 c9 c10 c43 c45 c46 n ln cl q z := by
  obtain ⟨⟨h1, h1b, h1c, h1d, h1e, h1f, h1g, h1h⟩, ⟨h2, h2b⟩, ⟨h3, h3b, h3c⟩, ⟨h4, h4b, h4c⟩, h5, ⟨h6, h6b, h6c, h6d⟩, ⟨h7, h7b, h7c, h7d, h7e⟩⟩ := h
  obtain ⟨p1, p2, p3, p4, p5, p6, p7⟩ := hc
  obtain ⟨q1, q2, q3, q4, q5, q6⟩ := hn
  have ej : ∀ f, 7 ≤ f → f ≤ 11 → j3 f = j0 f := fun f g1 g2 => (q1 f (by omega)).trans (p1 f g1 g2)
  refine ⟨⟨h1, h1b, (ej 7 (by decide) (by decide)).trans h1c, (ej 8 (by decide) (by decide)).trans h1d, (ej 9 (by decide) (by decide)).trans h1e, (ej 10 (by decide) (by decide)).trans h1f, (ej 11 (by decide) (by decide)).trans h1g, h1h⟩, ⟨fun p hp => ?_, h2b⟩, ⟨fun m hm => ?_, fun m hm => by rw [e6 m hm]; exact h3b m hm, fun i hi y hy => h3c i hi y (by rw [← p7 i hi]; exact hy)⟩, ⟨fun m hm => ?_, fun m hm => ?_, fun i hi => ?_⟩, h5, ⟨h6, h6b, q2.trans h6c, fun i hi => ?_⟩, ⟨h7, h7b, q3.trans h7c, fun i hi => ?_, fun i hi => by rw [e46 i hi]; exact h7e i hi⟩⟩
  · obtain ⟨g1, g2, g3⟩ := h2 p hp
    exact ⟨g1, (e10 p (by omega)).trans g2, by rw [q4 4 (by decide), (p3 p (by omega)).2.2]; exact g3⟩
  · obtain ⟨pm, k0, v1, g1, g2, g3, g4⟩ := h3 m hm
    exact ⟨pm, k0, v1, (p7 m (by omega)).trans g1, g2, (e5 m (by omega)).trans g3, (e6 m (by omega)).trans g4⟩
  · rw [e7 m hm, q4 1 (by decide), (p3 m hm).1]; exact h4 m hm
  · rw [e8 m hm, q4 2 (by decide), (p3 m hm).2.1]; exact h4b m hm
  · rw [e9 i hi, q4 3 (by decide), p4 i hi]; exact h4c i hi
  · rw [e43 i (by omega), q5 i (by omega)]; exact h6d i hi
  · rw [e45 i (by omega), e46 i (by omega), q6 i (by omega)]; exact h7d i hi
theorem cp_lt {f g : Nat → Int32} {n i : Nat} (h : i < n) : sp_cp f g n i = f i := if_pos h
/-- other scaffolds -/
theorem js.scs {sc2 : tc_sc} {CS2 : Nat → List sp_Cl} {ns2 : Nat} (h : js mn sc CS ns j0 b0 w0 v0 the men tn up fl sn bn a5 a6 a7 a8 a9 a10 a43 a45 a46 n ln cl q z) (hs : ∀ c, sc.1 c ≠ none → sc2.1 c = sc.1 c) (hC : ∀ s, s < ns → CS2 s = CS s) (hn : ns ≤ ns2) : js mn sc2 CS2 ns2 j0 b0 w0 v0 the men tn up fl sn bn a5 a6 a7 a8 a9 a10 a43 a45 a46 n ln cl q z := by
  obtain ⟨h1, h2, h3, h4, ⟨h5, h5b, h5c⟩, h6⟩ := h
  refine ⟨h1, h2, h3, h4, ⟨(hs v0 (by rw [h5]; exact Option.some_ne_none _)).trans h5, h5b, h5c.imp id fun ⟨s, g1, g2, g3⟩ => ⟨s, by omega, g2, by rw [hC s g1]; exact g3⟩⟩, h6⟩
theorem tc_R.new {MZ : px_H} (h : tc_R mn sc MZ r) : mn (97 + r.2.length) = none := by
  cases e : mn (97 + r.2.length) with
  | none => rfl
  | some k =>
    obtain ⟨k0, n0, v1⟩ := k
    obtain ⟨-, -, -, i, e1, e2⟩ := h.2.1 _ _ _ _ e
    have := (List.getElem?_eq_some_iff.mp e2).1
    omega
/-- the throw on both sides -/
theorem JX.thr (h : JX mn sc CS ns n ln cl q z T nf K I A L r) : (sp_throw (A 5, A 6, K.2.1 0 3, ln, n, cl) 2000000000 (K.1 0 9) (K.2.1 0 1) (K.2.1 0 2)).1 = (sp_throw (A 5, A 6, A 9, ln, n, cl) (I 32) (I 2) (A 7) (A 8)).1 ∧ (sp_throw (A 5, A 6, K.2.1 0 3, ln, n, cl) 2000000000 (K.1 0 9) (K.2.1 0 1) (K.2.1 0 2)).2.1 = (sp_throw (A 5, A 6, A 9, ln, n, cl) (I 32) (I 2) (A 7) (A 8)).2.1 ∧ (∀ m, m < 6 → (if 9999 < (sp_throw (A 5, A 6, K.2.1 0 3, ln, n, cl) 2000000000 (K.1 0 9) (K.2.1 0 1) (K.2.1 0 2)).2.2.1 m then 9999 else (sp_throw (A 5, A 6, K.2.1 0 3, ln, n, cl) 2000000000 (K.1 0 9) (K.2.1 0 1) (K.2.1 0 2)).2.2.1 m) = (sp_throw (A 5, A 6, A 9, ln, n, cl) (I 32) (I 2) (A 7) (A 8)).2.2.1 m) ∧ ∀ m, m < 6 → (sp_throw (A 5, A 6, K.2.1 0 3, ln, n, cl) 2000000000 (K.1 0 9) (K.2.1 0 1) (K.2.1 0 2)).2.2.2 m = (sp_throw (A 5, A 6, A 9, ln, n, cl) (I 32) (I 2) (A 7) (A 8)).2.2.2 m := by
  obtain ⟨x1, x2, x3, x4⟩ := sp_throw_x (c := 2000000000) (t := I 2) (h.se h.ln6) h.h1 h.h2
  rw [h.k9, h.e32]
  have hc : ∀ hb : mo_hb A, ∀ m, m < 6 → (if 9999 < A 7 m then 9999 else A 7 m) = A 7 m := fun hb m hm => by
    obtain ⟨hh, g1, g2⟩ := hb m hm
    rw [g2, if_neg (show ¬ (9999 : Int32) < nI hh from nI_nlt (a := 9999) g1 (by decide))]
  obtain ⟨y1, y2, y3, y4⟩ := jf_go_cap (S := (A 5, A 6, A 9, ln, n, cl)) (n := n) rfl (fun p hp => h.ln6 p hp) (fun p p2 hp hp2 e => h.2.1.2.1.2.2 p p2 hp hp2 e) n 0 (I 2 + sp_rise cl) (A 7) (A 7) (A 8) (by omega) (fun m hm => by
    obtain ⟨hh, g1, g2⟩ := h.hb m hm
    exact ⟨hh, by omega, g2⟩) (hc h.hb) (fun i _ hi => ⟨rfl, h.hb _ (h.ln6 i hi)⟩)
  refine ⟨x1.trans y1, x2.trans y2, fun m hm => ?_, fun m hm => ?_⟩
  · rw [x3 m hm]; exact y3 m hm
  · rw [x4 m hm]; exact congrFun y4 m
end JPI
section JPJ
variable {G : px_G} {D : Nat} {Q : Option Value → px_H → Prop} {K : tc_K} {I : Nat → Int32} {A : Nat → Nat → Int32} {L : Nat → Nat → Int64} {r : tc_r}

theorem jp_man {x y : Int32} (hD : 24 ≤ D) (hJ : JI K I A L r) (k : ∀ (v : Int32) (K2 : tc_K) (r2 : tc_r), jq G m_Mo_man [.int x, .int y] (.int v) K2 r2 I A L → Q (some (.int v)) (HT K2 (JM I A L) r2)) : px_W G D 1 2 m_TC_man 0 (px_ent 3 [.ref 0, .int x, .int y]) [] (HT K (JM I A L) r) Q := by
  obtain ⟨mn, sc, CS, ns, n, ln, cl, q, z, T, nf, h⟩ := hJ
  obtain ⟨bb, hw⟩ := h.w
  have hI : ¬ I 0 = 6 → n < 6 := fun e => by
    have hn6 := h.n6
    have : n ≠ 6 := fun e2 => e (by rw [h.i0, e2]; rfl)
    omega
  have hI2 : ¬ I 0 = 6 → ∃ m, m < 6 ∧ I 0 = nI m := fun e => ⟨n, hI e, h.i0⟩
  have hin : ¬ I 0 = 6 → vp_in (I 0) 6 := fun e => by rw [h.i0]; exact vp_in_nI (hI e) (by decide)
  refine c_TC_man (B := 9999) (by omega) h.1 h.st (by decide) h.k7 (fun hn => ?_) (fun hx hb => ?_) (fun hx hy h6 => ?_) (fun k0 v0 hk0 hv0 ex ey hn6 j2 b2 e1 e2 e3 e4 e5 e6 e7 => ?_)
  · refine k _ K r (fun Q' k' => ?_)
    refine jw ?_
    exact c_Mo_man (by decide) hI2 hin (fun _ => jd' k' h.ji rfl) (fun z => absurd z hn) (fun z => absurd z hn) (fun z => absurd z hn)
  · refine k _ K r (fun Q' k' => ?_)
    refine jw ?_
    exact c_Mo_man (by decide) hI2 hin (fun z => absurd hx z) (fun _ _ => jd' k' h.ji rfl) (fun _ z => absurd z hb) (fun _ z => absurd z hb)
  · subst h6
    refine k _ K r (fun Q' k' => ?_)
    refine jw ?_
    exact c_Mo_man (by decide) hI2 hin (fun z => absurd hx z) (fun _ z => absurd hy z) (fun _ _ _ => jd' k' h.ji rfl) (fun _ _ z => absurd h.i0 z)
  · subst ex
    subst ey
    have hx : 0 ≤ nI k0 ∧ nI k0 ≤ 6 := ⟨nI_pos' (by omega), nI_le (b := 6) (by omega) (by decide)⟩
    have hy : 0 ≤ nI v0 ∧ nI v0 ≤ 9 := ⟨nI_pos' (by omega), nI_le (b := 9) (by omega) (by decide)⟩
    refine k _ _ (r.1, r.2 ++ [.inr (5 + k0, [.int (nI n), .int (nI v0)])]) (fun Q' k' => ?_)
    refine jw ?_
    refine c_Mo_man (by decide) hI2 hin (fun z => absurd hx z) (fun _ z => absurd hy z) (fun _ _ z => absurd ((nI_eq (b := 6) (by omega) (by decide)).mp (h.i0.symm.trans z)) (by omega)) (fun _ _ _ m hm em => ?_)
    have := (nI_eq (by omega) (by omega)).mp (em.symm.trans h.i0)
    subst this
    have hnew := h.1.new
    have hold : ∀ c, mn c ≠ none → (if c = 97 + r.2.length then some (k0, m, v0) else mn c) = mn c := fun c hc => if_neg (fun e => hc (by rw [e]; exact hnew))
    refine jd' k' (JX.ji (h.now (mn2 := fun c => if c = 97 + r.2.length then some (k0, m, v0) else mn c) (cl2 := cl) (n2 := m + 1) (ln2 := fun p => if p = m then m else ln p) (q2 := q) (z2 := z) ((h.1.push hk0 hn6 hv0).mz rfl) hold ?_ tk.now rfl (fun k hk => (jI_up (S := [0, 1, 2, 3, 4, 12, 42, 44, 29, 30, 31]) (by decide) k hk).trans (jI_up (S := [0, 1, 2, 3, 4, 12, 42, 44, 29, 30, 31]) (by decide) k hk)) (fun k hk => ?_))) (nI_pred m)
    · obtain ⟨h1, ⟨h2, h2b, h2c⟩, ⟨h3, h3b, h3c⟩, ⟨h4, h4b, h4c⟩, h5, h6, h7⟩ := h.2.1
      have hb : ∀ i, (ks K 0 j2 b2 (va_up (K.2.2.1 0) m (some (97 + r.2.length))) (K.2.2.2.1 0)).2.1 0 i = b2 i := fun i => rfl
      have hj : (ks K 0 j2 b2 (va_up (K.2.2.1 0) m (some (97 + r.2.length))) (K.2.2.2.1 0)).1 0 = _ := e1
      refine ⟨?_, ⟨fun p hp => ?_, fun mq hmq => ?_, fun p p2 hp hp2 e => ?_⟩, ⟨fun mq hmq => ?_, fun i hi => ?_, fun i hi y hy => ?_⟩, ⟨fun i hi => ?_, fun i hi => ?_, fun i hi => ?_⟩, h5, ?_, ?_⟩
      · rw [hj]; exact ⟨by omega, rfl, rfl, rfl, h1.2.2.2.2⟩
      · rw [hb, e5]
        show (if p = m then m else ln p) < m + 1 ∧ (if p = m then nI m else A 10 p) = nI (if p = m then m else ln p) ∧ (if p = m then nI m else K.2.1 0 4 p) = nI (if p = m then m else ln p)
        by_cases c : p = m
        · rw [if_pos c, if_pos c, if_pos c]; exact ⟨by omega, rfl, rfl⟩
        · rw [if_neg c, if_neg c, if_neg c]
          obtain ⟨g1, g2, g3⟩ := h2 p (by omega)
          exact ⟨by omega, g2, g3⟩
      · show ∃ p, p < m + 1 ∧ (if p = m then m else ln p) = mq
        by_cases c : mq = m
        · exact ⟨m, by omega, by rw [if_pos rfl, c]⟩
        · obtain ⟨p, hp, e⟩ := h2b mq (by omega)
          exact ⟨p, by omega, by rw [if_neg (by omega)]; exact e⟩
      · have e : (if p = m then m else ln p) = (if p2 = m then m else ln p2) := e
        by_cases c : p = m
        · by_cases c2 : p2 = m
          · omega
          · rw [if_pos c, if_neg c2] at e
            have := (h2 p2 (by omega)).1
            omega
        · by_cases c2 : p2 = m
          · rw [if_neg c, if_pos c2] at e
            have := (h2 p (by omega)).1
            omega
          · rw [if_neg c, if_neg c2] at e
            exact h2c p p2 (by omega) (by omega) e
      · show ∃ pm k1 v1, (if mq = m then some (97 + r.2.length) else K.2.2.1 0 mq) = some pm ∧ (if pm = 97 + r.2.length then some (k0, m, v0) else mn pm) = some (k1, mq, v1) ∧ (if mq = m then nI k0 else A 5 mq) = nI k1 ∧ (if mq = m then nI v0 else A 6 mq) = nI v1
        by_cases c : mq = m
        · rw [if_pos c, if_pos c, if_pos c]
          exact ⟨97 + r.2.length, k0, v0, rfl, by rw [if_pos rfl, c], rfl, rfl⟩
        · rw [if_neg c, if_neg c, if_neg c]
          obtain ⟨pm, k1, v1, g1, g2, g3, g4⟩ := h3 mq (by omega)
          exact ⟨pm, k1, v1, g1, (hold pm (by rw [g2]; exact Option.some_ne_none _)).trans g2, g3, g4⟩
      · show ∃ vv, vv ≤ 9 ∧ (if i = m then nI v0 else A 6 i) = nI vv
        by_cases c : i = m
        · rw [if_pos c]; exact ⟨v0, by omega, rfl⟩
        · rw [if_neg c]; exact h3b i hi
      · have hy : (if i = m then some (97 + r.2.length) else K.2.2.1 0 i) = some y := hy
        by_cases c : i = m
        · rw [if_pos c] at hy
          cases hy
          exact Or.inr ⟨k0, m, v0, if_pos rfl⟩
        · rw [if_neg c] at hy
          rcases h3c i hi y hy with e | ⟨a, b, c, e⟩
          · exact Or.inl e
          · exact Or.inr ⟨a, b, c, (hold y (by rw [e]; exact Option.some_ne_none _)).trans e⟩
      · rw [hb, e2]
        show ∃ hh, hh ≤ 9999 ∧ (if i = m then 0 else A 7 i) = nI hh ∧ (if i = m then 0 else K.2.1 0 1 i) = nI hh
        by_cases c : i = m
        · rw [if_pos c, if_pos c]; exact ⟨0, by decide, rfl, rfl⟩
        · rw [if_neg c, if_neg c]; exact h4 i hi
      · rw [hb, e3]
        show (if i = m then 0 else K.2.1 0 2 i) = (if i = m then 0 else A 8 i)
        by_cases c : i = m
        · rw [if_pos c, if_pos c]
        · rw [if_neg c, if_neg c]; exact h4b i hi
      · rw [hb, e4]
        show ∃ x, x ≤ 9 ∧ mo_z4 (K.2.1 0 3) m 4 i = nI x ∧ mo_z4 (A 9) m 4 i = nI x
        rw [z4_at, z4_at]
        by_cases c : 4 * m ≤ i ∧ i < 4 * m + 4
        · rw [if_pos c, if_pos c]; exact ⟨0, by decide, rfl, rfl⟩
        · rw [if_neg c, if_neg c]; exact h4c i hi
      · rw [hj, hb, e6]; exact h6
      · rw [hj, hb, e7]; exact h7
    · have hne : ∀ c, c ∈ [5, 6, 7, 8, 9, 10, 43, 45, 46, 28] → ¬ k = c := fun c hc e => hk (e ▸ hc)
      exact (if_neg (hne 9 (by decide))).trans ((if_neg (hne 10 (by decide))).trans ((if_neg (hne 8 (by decide))).trans ((if_neg (hne 7 (by decide))).trans ((if_neg (hne 6 (by decide))).trans (if_neg (hne 5 (by decide)))))))
theorem jp_up {bt : Int32} (hD : 24 ≤ D) (hJ : JI K I A L r) (k : ∀ (v : Int32) (K2 : tc_K) (r2 : tc_r), jq G m_Mo_up [.int bt] (.int v) K2 r2 I A L → Q (some (.int v)) (HT K2 (JM I A L) r2)) : px_W G D 0 0 m_TC_up 0 (px_ent 3 [.ref 0, .int bt]) [] (HT K (JM I A L) r) Q := by
  obtain ⟨mn, sc, CS, ns, n, ln, cl, q, z, T, nf, h⟩ := hJ
  obtain ⟨bb, hw⟩ := h.w
  obtain ⟨t1, t2, t3, t4⟩ := h.thr
  obtain ⟨-, -, -, -, -, u1, f1, ⟨u, hu, eu⟩, fc, hf, ef0⟩ := h.2.1.1
  have hs2 : (999999 < K.1 0 9 + bt ∨ 9999 ≤ K.1 0 10 ∨ 9999 ≤ K.1 0 11) ↔ (999999 < I 2 + bt ∨ I 3 = 9999 ∨ I 4 = 9999) := by
    have e : ∀ c, c ≤ 9999 → (9999 ≤ nI c ↔ nI c = 9999) := fun c hc => by
      constructor
      · intro w
        have := (nI_leI (a := 9999) (by decide) (by omega)).mp w
        exact congrArg nI (show c = 9999 by omega)
      · intro w; rw [w]; decide
    rw [h.k9, u1, f1, eu, ef0, e u hu, e fc hf]
  have sub1 : ∀ k, k ∈ [2, 3, 4, 29, 30, 31] → k ∈ [0, 1, 2, 3, 4, 12, 42, 44, 29, 30, 31] := by decide
  have sub2 : ∀ k, k ∈ [7, 8, 28] → k ∈ [5, 6, 7, 8, 9, 10, 43, 45, 46, 28] := by decide
  refine c_TC_up (B := 9999) (by omega) h.1 h.st (by decide) (fun hb => ?_) (fun hx hs => ?_) (fun hx hs j2 b2 r2 hR2 hms ej9 eb1 eb2 => ?_)
  · refine k _ K r (fun Q' k' => ?_)
    refine jw ?_
    exact c_Mo_up (by decide) hw h.hb.h (fun _ => jd' k' h.ji rfl) (fun z => absurd z hb) (fun z => absurd z hb) (fun z => absurd z hb)
  · refine k _ K r (fun Q' k' => ?_)
    refine jw ?_
    exact c_Mo_up (by decide) hw h.hb.h (fun z => absurd hx z) (fun _ _ => jd' k' h.ji rfl) (fun _ z => absurd (hs2.mp hs) z) (fun _ z => absurd (hs2.mp hs) z)
  · have cu1 : ∃ u, u ≤ 9999 ∧ I 3 + 1 = nI u := by
      have w : ¬ 9999 ≤ K.1 0 10 := fun w => hs (Or.inr (Or.inl w))
      rw [u1, eu] at w
      have := Nat.lt_of_not_le (fun w2 => w (nI_le (a := 9999) w2 (by omega)))
      exact ⟨u + 1, by omega, by rw [eu]; exact nI_1 u⟩
    have cf1 : ∃ u, u ≤ 9999 ∧ I 4 + 1 = nI u := by
      have w : ¬ 9999 ≤ K.1 0 11 := fun w => hs (Or.inr (Or.inr w))
      rw [f1, ef0] at w
      have := Nat.lt_of_not_le (fun w2 => w (nI_le (a := 9999) w2 (by omega)))
      exact ⟨fc + 1, by omega, by rw [ef0]; exact nI_1 fc⟩
    cases hr : (sp_throw (A 5, A 6, K.2.1 0 3, ln, n, cl) 2000000000 (K.1 0 9) (K.2.1 0 1) (K.2.1 0 2)).1 with
    | none =>
      intro ej10 ej11
      refine k _ _ r2 (fun Q' k' => ?_)
      refine jw ?_
      refine c_Mo_up (by decide) hw h.hb.h (fun z => absurd hx z) (fun _ z => absurd (hs2.mpr z) hs) (fun _ _ I' A' rt rh rf eT hm2 ea7 ea8 ei2 ei3 ei4 hmh => ?_) (fun _ _ I' A' m rt rh rf eT _ _ _ _ _ _ _ _ => absurd (hr.symm.trans (t1.trans (congrArg Prod.fst eT))) (fun w => by cases w))
      have et : (sp_throw (A 5, A 6, A 9, ln, n, cl) (I 32) (I 2) (A 7) (A 8)).2.1 = rt := congrArg (fun w => w.2.1) eT
      have eh : (sp_throw (A 5, A 6, A 9, ln, n, cl) (I 32) (I 2) (A 7) (A 8)).2.2.1 = rh := congrArg (fun w => w.2.2.1) eT
      have ef : (sp_throw (A 5, A 6, A 9, ln, n, cl) (I 32) (I 2) (A 7) (A 8)).2.2.2 = rf := congrArg (fun w => w.2.2.2) eT
      refine jd' k' (JX.ji (h.now (mn2 := mn) (cl2 := cl) (n2 := n) (ln2 := ln) (q2 := q) (z2 := z) (hR2.mz rfl) (fun _ _ => rfl) ?_ tk.now (by rw [hm2.1 1 (by decide), hm2.1 0 (by decide)]; exact h.2.2.1.2.2.2.2.1) (fun k hk => hm2.1 k (fun w => hk (sub1 k w))) (fun k hk => hm2.2 k (fun w => hk (sub2 k w))))) (by rw [t2, et, h.k9])
      obtain ⟨h1, h2, h3, ⟨h4, h4b, h4c⟩, h5, h6, h7⟩ := h.2.1
      have hb : ∀ i, i ≠ 1 → (ks K 0 j2 (va_up b2 1 (sp_cap (b2 1) 6)) (K.2.2.1 0) (K.2.2.2.1 0)).2.1 0 i = b2 i := fun i hi => if_neg hi
      have hj : (ks K 0 j2 (va_up b2 1 (sp_cap (b2 1) 6)) (K.2.2.1 0) (K.2.2.2.1 0)).1 0 = j2 := rfl
      have hbk := fun i (hi : i ∉ [1, 2]) => hms.2 i hi
      have hjk := fun i (hi : i ∉ [9, 10, 11]) => hms.1 i hi
      rw [hm2.1 12 (by decide), hm2.1 0 (by decide), hm2.1 42 (by decide), hm2.1 44 (by decide), hm2.2 5 (by decide), hm2.2 6 (by decide), hm2.2 9 (by decide), hm2.2 10 (by decide), hm2.2 43 (by decide), hm2.2 45 (by decide), hm2.2 46 (by decide)]
      refine ⟨⟨h1.1, h1.2.1, (hjk 7 (by decide)).trans h1.2.2.1, (hjk 8 (by decide)).trans h1.2.2.2.1, ej9.trans (by rw [h.k9]; exact ei2.symm), ej10.trans (by rw [h1.2.2.2.2.2.1, ei3]), ej11.trans (by rw [h1.2.2.2.2.2.2.1, ei4]), (by rw [ei3]; exact cu1), (by rw [ei4]; exact h1.2.2.2.2.2.2.2.2)⟩, ⟨fun p hp => ?_, h2.2⟩, h3, ⟨fun m hm => ?_, fun m hm => ?_, fun i hi => ?_⟩, h5, ?_, ?_⟩
      · rw [hb 4 (by decide), hbk 4 (by decide)]; exact h2.1 p hp
      · obtain ⟨hh, g1, g2⟩ := hmh m hm
        have e1 : (ks K 0 j2 (va_up b2 1 (sp_cap (b2 1) 6)) (K.2.2.1 0) (K.2.2.2.1 0)).2.1 0 1 m = A' 7 m := by
          show (if m < 6 then (if 9999 < b2 1 m then 9999 else b2 1 m) else b2 1 m) = _
          rw [if_pos hm, eb1, ea7, ← eh]
          exact t3 m hm
        have e2 : ¬ 9999 < A' 7 m := by
          rw [← e1]
          show ¬ 9999 < (if m < 6 then (if 9999 < b2 1 m then 9999 else b2 1 m) else b2 1 m)
          rw [if_pos hm]
          by_cases c : 9999 < b2 1 m
          · rw [if_pos c]; decide
          · rw [if_neg c]; exact c
        rw [g2] at e2
        exact ⟨hh, Nat.not_lt.mp (fun w => e2 (nI_lt (a := 9999) w g1)), g2, e1.trans g2⟩
      · rw [hb 2 (by decide), eb2, ea8, ← ef]
        exact t4 m hm
      · rw [hb 3 (by decide), hbk 3 (by decide)]; exact h4c i hi
      · rw [hj, hb 5 (by decide), hbk 5 (by decide), hjk 12 (by decide)]; exact h6
      · rw [hj, hb 6 (by decide), hbk 6 (by decide), hjk 13 (by decide)]; exact h7
    | some m =>
      intro hm6 ej10 ej11
      refine k _ _ r2 (fun Q' k' => ?_)
      refine jw ?_
      refine c_Mo_up (by decide) hw h.hb.h (fun z => absurd hx z) (fun _ z => absurd (hs2.mpr z) hs) (fun _ _ I' A' rt rh rf eT _ _ _ _ _ _ _ => absurd (hr.symm.trans (t1.trans (congrArg Prod.fst eT))) (fun w => by cases w)) (fun _ _ I' A' m2 rt rh rf eT hm26 hm2 ea7 ea8 ei2 ei3 ei4 hmh => ?_)
      have et : (sp_throw (A 5, A 6, A 9, ln, n, cl) (I 32) (I 2) (A 7) (A 8)).2.1 = rt := congrArg (fun w => w.2.1) eT
      have eh : (sp_throw (A 5, A 6, A 9, ln, n, cl) (I 32) (I 2) (A 7) (A 8)).2.2.1 = rh := congrArg (fun w => w.2.2.1) eT
      have ef : (sp_throw (A 5, A 6, A 9, ln, n, cl) (I 32) (I 2) (A 7) (A 8)).2.2.2 = rf := congrArg (fun w => w.2.2.2) eT
      have em : m2 = m := Option.some.inj ((congrArg Prod.fst eT).symm.trans (t1.symm.trans hr))
      refine jd' k' (JX.ji (h.now (mn2 := mn) (cl2 := cl) (n2 := n) (ln2 := ln) (q2 := q) (z2 := z) (hR2.mz rfl) (fun _ _ => rfl) ?_ tk.now (by rw [hm2.1 1 (by decide), hm2.1 0 (by decide)]; exact h.2.2.1.2.2.2.2.1) (fun k hk => hm2.1 k (fun w => hk (sub1 k w))) (fun k hk => hm2.2 k (fun w => hk (sub2 k w))))) (by rw [em])
      obtain ⟨h1, h2, h3, ⟨h4, h4b, h4c⟩, h5, h6, h7⟩ := h.2.1
      have hb : ∀ i, i ≠ 1 → (ks K 0 j2 (va_up b2 1 (sp_cap (b2 1) 6)) (K.2.2.1 0) (K.2.2.2.1 0)).2.1 0 i = b2 i := fun i hi => if_neg hi
      have hj : (ks K 0 j2 (va_up b2 1 (sp_cap (b2 1) 6)) (K.2.2.1 0) (K.2.2.2.1 0)).1 0 = j2 := rfl
      have hbk := fun i (hi : i ∉ [1, 2]) => hms.2 i hi
      have hjk := fun i (hi : i ∉ [9, 10, 11]) => hms.1 i hi
      rw [hm2.1 12 (by decide), hm2.1 0 (by decide), hm2.1 42 (by decide), hm2.1 44 (by decide), hm2.2 5 (by decide), hm2.2 6 (by decide), hm2.2 9 (by decide), hm2.2 10 (by decide), hm2.2 43 (by decide), hm2.2 45 (by decide), hm2.2 46 (by decide)]
      refine ⟨⟨h1.1, h1.2.1, (hjk 7 (by decide)).trans h1.2.2.1, (hjk 8 (by decide)).trans h1.2.2.2.1, ej9.trans (by rw [h.k9]; exact ei2.symm), ej10.trans (by rw [h1.2.2.2.2.2.1, ei3]), ej11.trans (by rw [h1.2.2.2.2.2.2.1, ei4]), (by rw [ei3]; exact h1.2.2.2.2.2.2.2.1), (by rw [ei4]; exact cf1)⟩, ⟨fun p hp => ?_, h2.2⟩, h3, ⟨fun m hm => ?_, fun m hm => ?_, fun i hi => ?_⟩, h5, ?_, ?_⟩
      · rw [hb 4 (by decide), hbk 4 (by decide)]; exact h2.1 p hp
      · obtain ⟨hh, g1, g2⟩ := hmh m hm
        have e1 : (ks K 0 j2 (va_up b2 1 (sp_cap (b2 1) 6)) (K.2.2.1 0) (K.2.2.2.1 0)).2.1 0 1 m = A' 7 m := by
          show (if m < 6 then (if 9999 < b2 1 m then 9999 else b2 1 m) else b2 1 m) = _
          rw [if_pos hm, eb1, ea7, ← eh]
          exact t3 m hm
        have e2 : ¬ 9999 < A' 7 m := by
          rw [← e1]
          show ¬ 9999 < (if m < 6 then (if 9999 < b2 1 m then 9999 else b2 1 m) else b2 1 m)
          rw [if_pos hm]
          by_cases c : 9999 < b2 1 m
          · rw [if_pos c]; decide
          · rw [if_neg c]; exact c
        rw [g2] at e2
        exact ⟨hh, Nat.not_lt.mp (fun w => e2 (nI_lt (a := 9999) w g1)), g2, e1.trans g2⟩
      · rw [hb 2 (by decide), eb2, ea8, ← ef]
        exact t4 m hm
      · rw [hb 3 (by decide), hbk 3 (by decide)]; exact h4c i hi
      · rw [hj, hb 5 (by decide), hbk 5 (by decide), hjk 12 (by decide)]; exact h6
      · rw [hj, hb 6 (by decide), hbk 6 (by decide), hjk 13 (by decide)]; exact h7
theorem jp_image (hD : 24 ≤ D) (hJ : JI K I A L r) (k : ∀ (v : Int32) (K2 : tc_K) (r2 : tc_r), jq G m_Mo_image [] (.int v) K2 r2 I A L → Q (some (.int v)) (HT K2 (JM I A L) r2)) : px_W G D 0 0 m_TC_image 0 (px_ent 1 [.ref 0]) [] (HT K (JM I A L) r) Q := by
  obtain ⟨mn, sc, CS, ns, n, ln, cl, q, z, T, nf, h⟩ := hJ
  obtain ⟨bb, hw⟩ := h.w
  have hzb : ∀ j, j < 8 → vp_nar .boolean (A 46 j) = A 46 j := (fun j hj => by
    obtain ⟨u, hu, e⟩ := h.2.1.2.2.2.2.2.2.2.2.2.2 j hj
    rw [e]
    rcases (show u = 0 ∨ u = 1 by omega) with rfl | rfl <;> rfl)
  refine c_TC_image (B := 9999) (by omega) h.1 h.st (by decide) (fun j2 b2 w2 j3 b3 hcp hcn => ?_)
  refine k _ _ r (fun Q' k' => ?_)
  refine jw ?_
  refine c_Mo_image (by decide) hzb ?_
  refine jd' k' (JX.ji (mn := mn) (sc := sc) (CS := CS) (ns := ns) (n := n) (ln := ln) (cl := cl) (q := q) (z := z) (T := T) (nf := nf) ⟨h.1.mz rfl, h.2.1, ⟨h.2.2.1.1, h.2.2.1.2.1, h.2.2.1.2.2.1, h.tps (fun t _ => (if_neg (by omega)).trans (if_neg (by omega))) rfl rfl rfl rfl, h.2.2.1.2.2.2.2.1, h.e32⟩, fun i hi y hy => ?_, fun i hi => ?_, Or.inr ⟨rfl, rfl, n, ln, cl, q, z, ?_⟩⟩) (h.i0.trans h.k7.symm)
  · exact h.2.1.2.2.1.2.2 i hi y (by rw [← hcp.2.2.2.2.2.2 i hi]; exact hy)
  · show ∃ u, u ≤ 1 ∧ sp_cp (A 46) (A 63) 8 i = nI u
    rw [cp_lt hi]
    exact h.2.1.2.2.2.2.2.2.2.2.2.2 i hi
  · exact js.cpy h.2.1 hcp hcn (fun i hi => cp_lt hi) (fun i hi => cp_lt hi) (fun i hi => cp_lt hi) (fun i hi => cp_lt hi) (fun i hi => cp_lt hi) (fun i hi => cp_lt hi) (fun i hi => cp_lt hi) (fun i hi => cp_lt hi) (fun i hi => cp_lt hi)
theorem jp_undo (hD : 24 ≤ D) (hJ : JI K I A L r) (k : ∀ (v : Int32) (K2 : tc_K) (r2 : tc_r), jq G m_Mo_undo [] (.int v) K2 r2 I A L → Q (some (.int v)) (HT K2 (JM I A L) r2)) : px_W G D 0 0 m_TC_undo 0 (px_ent 1 [.ref 0]) [] (HT K (JM I A L) r) Q := by
  obtain ⟨mn, sc, CS, ns, n, ln, cl, q, z, T, nf, h⟩ := hJ
  obtain ⟨bb, hw⟩ := h.w
  obtain ⟨hv1, hv2, hv3⟩ := h.2.2.2
  have hzb : ∀ j, j < 8 → vp_nar .boolean (A 63 j) = A 63 j := (fun j hj => by
    obtain ⟨u, hu, e⟩ := hv2 j hj
    rw [e]
    rcases (show u = 0 ∨ u = 1 by omega) with rfl | rfl <;> rfl)
  have h01 : K.1 5 10 = 0 ↔ I 47 = 0 := by
    rcases hv3 with ⟨e1, e2⟩ | ⟨e1, e2, -⟩
    · rw [e1, e2]
    · rw [e1, e2]
  refine c_TC_undo (by omega) h.1 hv1 (fun h0 => ?_) (fun h0 j2 b2 w2 j3 b3 hcp hcn => ?_)
  · refine k _ K r (fun Q' k' => ?_)
    refine jw ?_
    exact c_Mo_undo (by decide) hzb (fun _ => jd' k' h.ji rfl) (fun z => absurd (h01.mp h0) z)
  · rcases hv3 with ⟨e1, -⟩ | ⟨-, -, n1, ln1, cl1, q1, z1, hi1⟩
    · exact absurd e1 h0
    refine k _ _ r (fun Q' k' => ?_)
    refine jw ?_
    refine c_Mo_undo (by decide) hzb (fun z => absurd (h01.mpr z) h0) (fun _ => ?_)
    have hjs := js.cpy (c5 := sp_cp (A 55) (A 5) 6) (c6 := sp_cp (A 56) (A 6) 6) (c7 := sp_cp (A 57) (A 7) 6) (c8 := sp_cp (A 58) (A 8) 6) (c9 := sp_cp (A 60) (A 9) 24) (c10 := sp_cp (A 59) (A 10) 6) (c43 := sp_cp (A 61) (A 43) 6) (c45 := sp_cp (A 62) (A 45) 8) (c46 := sp_cp (A 63) (A 46) 8) hi1 hcp hcn (fun i hi => cp_lt hi) (fun i hi => cp_lt hi) (fun i hi => cp_lt hi) (fun i hi => cp_lt hi) (fun i hi => cp_lt hi) (fun i hi => cp_lt hi) (fun i hi => cp_lt hi) (fun i hi => cp_lt hi) (fun i hi => cp_lt hi)
    refine jd' k' (JX.ji (h.now (mn2 := mn) (cl2 := cl1) (n2 := n1) (ln2 := ln1) (q2 := q1) (z2 := z1) (h.1.mz rfl) (fun _ _ => rfl) hjs tk.now rfl (fun k hk => ?_) (fun k hk => ?_))) (hi1.1.2.1.trans hjs.1.2.2.1.symm)
    · have hne : ∀ c, c ∈ [0, 1, 2, 3, 4, 12, 42, 44, 29, 30, 31] → ¬ k = c := fun c hc e => hk (e ▸ hc)
      exact (if_neg (hne 44 (by decide))).trans ((if_neg (hne 42 (by decide))).trans ((if_neg (hne 4 (by decide))).trans ((if_neg (hne 3 (by decide))).trans ((if_neg (hne 2 (by decide))).trans ((if_neg (hne 1 (by decide))).trans ((if_neg (hne 0 (by decide))).trans (if_neg (hne 12 (by decide)))))))))
    · have hne : ∀ c, c ∈ [5, 6, 7, 8, 9, 10, 43, 45, 46, 28] → ¬ k = c := fun c hc e => hk (e ▸ hc)
      show mo_u3 (mo_u2 (mo_u1 A 6) 24) 8 k = A k
      unfold mo_u3 mo_u2 mo_u1
      rw [if_neg (hne 45 (by decide)), if_neg (hne 46 (by decide)), if_neg (hne 9 (by decide)), if_neg (hne 5 (by decide)), if_neg (hne 6 (by decide)), if_neg (hne 7 (by decide)), if_neg (hne 8 (by decide)), if_neg (hne 10 (by decide)), if_neg (hne 43 (by decide))]
theorem jp_scaffold (hD : 24 ≤ D) (hJ : JI K I A L r) (k : ∀ (v : Int32) (K2 : tc_K) (r2 : tc_r), jq G m_Mo_scaffold [] (.int v) K2 r2 I A L → Q (some (.int v)) (HT K2 (JM I A L) r2)) : px_W G D 5 2420 m_TC_scaffold 0 (px_ent 3 [.ref 0]) [] (HT K (JM I A L) r) Q := by
  obtain ⟨mn, sc, CS, ns, n, ln, cl, q, z, T, nf, h⟩ := hJ
  obtain ⟨bb, hw⟩ := h.w
  obtain ⟨p1, p2, p3, p4, p5, p6⟩ := h.2.2.1.1
  obtain ⟨f1, f2, f3, f4⟩ := h.2.2.1.2.1
  have hT : ph_tx (K.2.1 5 4) T nf := ⟨f1, fun j hj => ⟨(f4 j hj).1, (f4 j hj).2.1⟩⟩
  have hx : mo_tx I A T nf := ⟨f3, f1, fun j hj => ⟨(f4 j hj).1, (f4 j hj).2.2⟩⟩
  refine c_TC_scaffold (ns := ns) (nf := nf) (T := T) hD h.1 p1 p3 f2 hT p5 (fun h6 => ?_) (fun hns p' hp K2 sc2 r2 c hR2 hsc hc2 hsck => ?_) (fun hns cl2 p' hp K2 sc2 r2 c hR2 hc2 hsc hsck => ?_)
  · refine k _ K r (fun Q' k' => ?_)
    refine jw ?_
    exact c_Mo_scaffold (f := ns) (by decide) p3 p2 hx (fun _ => jd' k' h.ji rfl) (fun cs p' z => absurd z (by omega)) (fun p' z => absurd z (by omega))
  · refine k _ K2 r2 (fun Q' k' => ?_)
    refine jw ?_
    refine c_Mo_scaffold (f := ns) (by decide) p3 p2 hx (fun z => absurd z (by omega)) (fun cs p2' _ hq => absurd (hp.symm.trans hq) (fun w => by cases w)) (fun p2' _ hq I2 A2 hm2 hkf ei13 ei11 ei12 => ?_)
    have ep : p2' = p' := congrArg Prod.snd (hq.symm.trans hp)
    obtain ⟨⟨s00, s01, s02, s03⟩, ⟨s10, s11, s12, s13⟩, ⟨s58, s59, s5a, s5b⟩, s6, sy, sw, swo⟩ := hsck
    have i := fun k (hk : k ∉ [11, 12, 13, 14, 15, 24, 25, 26]) => hm2.1 k hk
    have a := fun k (hk : k ∉ [17, 18, 19, 20, 21, 22, 23]) => hm2.2 k hk
    refine jd' k' (JX.ji (mn := mn) (sc := sc2) (CS := CS) (ns := ns) (n := n) (ln := ln) (cl := cl) (q := q) (z := z) (T := T) (nf := 0) ⟨hR2.mz rfl, ?_, ⟨⟨s58, ei11, p3, fun s hs => (p4 s hs).kf hs hkf, fun _ => Or.inr ⟨c, sw, hc2⟩, fun i h1 h2 => (swo i (by omega)).trans (p6 i h1 h2)⟩, ⟨by decide, s59, ei13, fun i hi => absurd hi (Nat.not_lt_zero i)⟩, by rw [s5b, i 64 (by decide), a 65 (by decide)]; exact h.2.2.1.2.2.1, h.tps (fun t _ => s6 t) sy (a 66 (by decide)) (a 67 (by decide)) rfl, by rw [i 1 (by decide), i 0 (by decide)]; exact h.2.2.1.2.2.2.2.1, by rw [i 32 (by decide)]; exact h.e32⟩, ?_⟩) (by rw [ep])
    · rw [s00, s01, s02, s03, ei12, i 0 (by decide), i 2 (by decide), i 3 (by decide), i 4 (by decide), i 42 (by decide), i 44 (by decide), a 5 (by decide), a 6 (by decide), a 7 (by decide), a 8 (by decide), a 9 (by decide), a 10 (by decide), a 43 (by decide), a 45 (by decide), a 46 (by decide)]
      exact h.2.1.scs hsc (fun _ _ => rfl) (Nat.le_refl _)
    · unfold jv
      rw [s10, s11, s12, s13, s5a, i 47 (by decide), i 48 (by decide), i 49 (by decide), i 50 (by decide), i 51 (by decide), i 52 (by decide), i 53 (by decide), i 54 (by decide), a 55 (by decide), a 56 (by decide), a 57 (by decide), a 58 (by decide), a 59 (by decide), a 60 (by decide), a 61 (by decide), a 62 (by decide), a 63 (by decide)]
      obtain ⟨v1, v2, v3⟩ := h.2.2.2
      exact ⟨v1, v2, v3.imp id fun ⟨g1, g2, n1, ln1, cl1, q1, z1, g3⟩ => ⟨g1, g2, n1, ln1, cl1, q1, z1, g3.scs hsc (fun _ _ => rfl) (Nat.le_refl _)⟩⟩
  · refine k _ K2 r2 (fun Q' k' => ?_)
    refine jw ?_
    refine c_Mo_scaffold (f := ns) (by decide) p3 p2 hx (fun z => absurd z (by omega)) (fun cs p2' _ hq I2 A2 hm2 hkf hcs ei11 ei12 ei13 => ?_) (fun p2' _ hq => absurd (hp.symm.trans hq) (fun w => by cases w))
    have ecs : cs = cl2 := Option.some.inj (congrArg Prod.fst (hq.symm.trans hp))
    subst ecs
    obtain ⟨⟨s00, s01, s02, s03⟩, ⟨s10, s11, s12, s13⟩, ⟨s58, s59, s5a, s5b⟩, s6, sy, sw, swo⟩ := hsck
    have i := fun k (hk : k ∉ [11, 12, 13, 14, 15, 24, 25, 26]) => hm2.1 k hk
    have a := fun k (hk : k ∉ [17, 18, 19, 20, 21, 22, 23]) => hm2.2 k hk
    have hCS : ∀ s, s < ns → (fun s => if s = ns then cs else CS s) s = CS s := fun s hs => if_neg (by omega)
    refine jd' k' (JX.ji (mn := mn) (sc := sc2) (CS := fun s => if s = ns then cs else CS s) (ns := ns + 1) (n := n) (ln := ln) (cl := cs) (q := q) (z := z) (T := T) (nf := 0) ⟨hR2.mz rfl, ?_, ⟨⟨s58, ei11, by omega, fun s hs => ?_, fun h6 => ?_, fun i h1 h2 => (swo i (by omega)).trans (p6 i (by omega) h2)⟩, ⟨by decide, s59, ei13, fun i hi => absurd hi (Nat.not_lt_zero i)⟩, by rw [s5b, i 64 (by decide), a 65 (by decide)]; exact h.2.2.1.2.2.1, h.tps (fun t _ => s6 t) sy (a 66 (by decide)) (a 67 (by decide)) rfl, by rw [i 1 (by decide), i 0 (by decide)]; exact h.2.2.1.2.2.2.2.1, by rw [i 32 (by decide)]; exact h.e32⟩, ?_⟩) rfl
    · rw [s00, s01, s02, s03, ei12, i 0 (by decide), i 2 (by decide), i 3 (by decide), i 4 (by decide), i 42 (by decide), i 44 (by decide), a 5 (by decide), a 6 (by decide), a 7 (by decide), a 8 (by decide), a 9 (by decide), a 10 (by decide), a 43 (by decide), a 45 (by decide), a 46 (by decide)]
      obtain ⟨h1, h2, h3, h4, h5, h6⟩ := h.2.1.scs hsc hCS (Nat.le_succ _)
      exact ⟨h1, h2, h3, h4, ⟨hc2, sp_txt_gd f1 hp, Or.inr ⟨ns, by omega, rfl, (if_pos rfl).symm⟩⟩, h6⟩
    · show mo_cs A2 s (if s = ns then cs else CS s)
      by_cases e : s = ns
      · rw [if_pos e, e]; exact hcs
      · rw [if_neg e]; exact (p4 s (by omega)).kf (by omega) hkf
    · exact Or.inl ((swo (ns + 1) (by omega)).trans (p6 (ns + 1) (by omega) h6))
    · unfold jv
      rw [s10, s11, s12, s13, s5a, i 47 (by decide), i 48 (by decide), i 49 (by decide), i 50 (by decide), i 51 (by decide), i 52 (by decide), i 53 (by decide), i 54 (by decide), a 55 (by decide), a 56 (by decide), a 57 (by decide), a 58 (by decide), a 59 (by decide), a 60 (by decide), a 61 (by decide), a 62 (by decide), a 63 (by decide)]
      obtain ⟨v1, v2, v3⟩ := h.2.2.2
      exact ⟨v1, v2, v3.imp id fun ⟨g1, g2, n1, ln1, cl1, q1, z1, g3⟩ => ⟨g1, g2, n1, ln1, cl1, q1, z1, g3.scs hsc hCS (Nat.le_succ _)⟩⟩
end JPJ
