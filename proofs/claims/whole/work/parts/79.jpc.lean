section JPE
variable {mn : tc_mn} {sc : tc_sc} {CS : Nat → List sp_Cl} {ns n : Nat} {ln : Nat → Nat} {cl : List sp_Cl} {q z : Nat} {T : Nat → Nat} {nf : Nat} {K : tc_K} {I : Nat → Int32} {A : Nat → Nat → Int32} {L : Nat → Nat → Int64} {r : tc_r}
/-- the tapes stay -/
theorem JX.tps (h : JX mn sc CS ns n ln cl q z T nf K I A L r) {K2 : tc_K} {A2 : Nat → Nat → Int32} {L2 : Nat → Nat → Int64} (k6 : ∀ t, t < 6 → K2.1 (6 + t) = K.1 (6 + t)) (ky : K2.2.2.2.2 = K.2.2.2.2) (a6 : A2 66 = A 66) (a7 : A2 67 = A 67) (l8 : L2 68 = L 68) : ∀ t, t < 6 → K2.1 (6 + t) 1 = A2 66 t ∧ K2.1 (6 + t) 2 = A2 67 t ∧ (-1 ≤ A2 66 t ∧ A2 66 t ≤ 4) ∧ (∃ l, l ≤ 60 ∧ A2 67 t = nI l ∧ (A2 66 t < 0 → l = 0)) ∧ ∀ i, i < 60 → K2.2.2.2.2 t i = L2 68 (60 * t + i) := fun t ht => by
  rw [k6 t ht, ky, a6, a7, l8]
  exact h.2.2.1.2.2.2.1 t ht
/-- the snapshot as it is now changes alone -/
theorem JX.now (h : JX mn sc CS ns n ln cl q z T nf K I A L r) {K2 : tc_K} {I2 : Nat → Int32} {A2 : Nat → Nat → Int32} {q2 z2 n2 : Nat} {ln2 : Nat → Nat} {cl2 : List sp_Cl} {r2 : tc_r} {mn2 : tc_mn} (hR : tc_R mn2 sc (JM I2 A2 L) r2) (hmn : ∀ m, mn m ≠ none → mn2 m = mn m) (hjs : js mn2 sc CS ns (K2.1 0) (K2.2.1 0) (K2.2.2.1 0) (K2.2.2.2.1 0) (I2 12) (I2 0) (I2 2) (I2 3) (I2 4) (I2 42) (I2 44) (A2 5) (A2 6) (A2 7) (A2 8) (A2 9) (A2 10) (A2 43) (A2 45) (A2 46) n2 ln2 cl2 q2 z2) (hk : tk [0] K K2) (e01 : I2 1 = I2 0) (hI : ∀ k, k ∉ [0, 1, 2, 3, 4, 12, 42, 44, 29, 30, 31] → I2 k = I k) (hA : ∀ k, k ∉ [5, 6, 7, 8, 9, 10, 43, 45, 46, 28] → A2 k = A k) : JX mn2 sc CS ns n2 ln2 cl2 q2 z2 T nf K2 I2 A2 L r2 := by
  obtain ⟨k10, k11, k12, k13⟩ := hk.1 1 (by decide)
  obtain ⟨k50, k51, -, -⟩ := hk.1 5 (by decide)
  refine ⟨hR, hjs, ⟨?_, ?_, ?_, h.tps (fun t _ => (hk.1 (6 + t) (by simp)).1) hk.2.1 (hA 66 (by decide)) (hA 67 (by decide)) rfl, e01, ?_⟩, ?_⟩
  · rw [k50, hk.2.2, hI 11 (by decide)]
    unfold mo_cs mo_clb
    rw [hA 17 (by decide), hA 18 (by decide), hA 19 (by decide), hA 20 (by decide), hA 21 (by decide), hA 22 (by decide)]
    exact h.2.2.1.1
  · rw [k50, k51, hI 13 (by decide), hA 16 (by decide)]
    exact h.2.2.1.2.1
  · rw [k51, hI 64 (by decide), hA 65 (by decide)]
    exact h.2.2.1.2.2.1
  · rw [hI 32 (by decide)]
    exact h.e32
  · unfold jv
    rw [k10, k11, k12, k13, k50, hI 47 (by decide), hI 48 (by decide), hI 49 (by decide), hI 50 (by decide), hI 51 (by decide), hI 52 (by decide), hI 53 (by decide), hI 54 (by decide), hA 55 (by decide), hA 56 (by decide), hA 57 (by decide), hA 58 (by decide), hA 59 (by decide), hA 60 (by decide), hA 61 (by decide), hA 62 (by decide), hA 63 (by decide)]
    obtain ⟨g1, g2, g3⟩ := h.2.2.2
    refine ⟨fun i hi y hy => ?_, g2, g3.imp id fun ⟨a, b, n1, ln1, cl1, q1, z1, c⟩ => ⟨a, b, n1, ln1, cl1, q1, z1, ?_⟩⟩
    · rcases g1 i hi y hy with e | ⟨a, b, c, e⟩
      · exact Or.inl e
      · exact Or.inr ⟨a, b, c, (hmn y (by rw [e]; exact Option.some_ne_none _)).trans e⟩
    · obtain ⟨c1, c2, ⟨c3, c3b, c3c⟩, c4⟩ := c
      refine ⟨c1, c2, ⟨fun m hm => ?_, c3b, fun i hi y hy => ?_⟩, c4⟩
      · obtain ⟨pm, k0, v0, d1, d2, d3⟩ := c3 m hm
        exact ⟨pm, k0, v0, d1, (hmn pm (by rw [d2]; exact Option.some_ne_none _)).trans d2, d3⟩
      · rcases c3c i hi y hy with e | ⟨a, b, c, e⟩
        · exact Or.inl e
        · exact Or.inr ⟨a, b, c, (hmn y (by rw [e]; exact Option.some_ne_none _)).trans e⟩
/-- with the site 0 another -/
theorem tk.now {K : tc_K} {j : Nat → Int32} {b : Nat → Nat → Int32} {w : Nat → Option Nat} {v : Nat} : tk [0] K (ks K 0 j b w v) := tk.rf.s 0 (by decide) j b w v
theorem jI_up {I : Nat → Int32} {c : Nat} {x : Int32} {S : List Nat} (hc : c ∈ S) : ∀ k, k ∉ S → upd I c x k = I k := fun k hk => if_neg (show ¬ k = c from fun e => hk (e ▸ hc))
theorem jA_up {A : Nat → Nat → Int32} {c : Nat} {f : Nat → Int32} {S : List Nat} (hc : c ∈ S) : ∀ k, k ∉ S → va_up A c f k = A k := fun k hk => if_neg (show ¬ k = c from fun e => hk (e ▸ hc))
theorem jt_n {x M : Int32} {n : Nat} (hM : M.toInt = n) (h : 0 ≤ x ∧ x ≤ M) : ∃ a, a ≤ n ∧ x = nI a := nI_of2 hM (Int32.not_lt.mpr h.1) h.2
end JPE
section JPF
variable {G : px_G} {D : Nat} {Q : Option Value → px_H → Prop} {K : tc_K} {I : Nat → Int32} {A : Nat → Nat → Int32} {L : Nat → Nat → Int64} {r : tc_r}

theorem jp_held {m x : Int32} (hD : 24 ≤ D) (hJ : JI K I A L r) (k : ∀ (v : Int32) (K2 : tc_K) (r2 : tc_r), jq G m_Mo_held [.int m, .int x] (.int v) K2 r2 I A L → Q (some (.int v)) (HT K2 (JM I A L) r2)) : px_W G D 0 0 m_TC_held 0 (px_ent 4 [.ref 0, .int m, .int x]) [] (HT K (JM I A L) r) Q := by
  obtain ⟨mn, sc, CS, ns, n, ln, cl, q, z, T, nf, h⟩ := hJ
  obtain ⟨bb, hw⟩ := h.w
  have hv : (0 ≤ m ∧ m ≤ I 0 - 1) → vp_in m 6 := (fun z => by
    obtain ⟨c, hc, rfl⟩ := h.mm z
    exact vp_in_nI (by have := h.n6; omega) (by decide))
  refine c_TC_held (B := 9999) (by omega) h.1 h.st (by decide) h.k7 (fun hn => ?_) (fun mm hm e hb => ?_) (fun mm hm e hx => ?_)
  · refine k _ K r (fun Q' k' => ?_)
    refine jw ?_
    exact c_Mo_held (by decide) hv (fun _ => jd' k' h.ji rfl) (fun z => absurd z (h.nm hn)) (fun z => absurd z (h.nm hn))
  · subst e
    refine k _ K r (fun Q' k' => ?_)
    refine jw ?_
    exact c_Mo_held (by decide) hv (fun z => absurd (h.im hm) z) (fun _ _ => jd' k' h.ji rfl) (fun _ z => absurd z hb)
  · subst e
    have hn6 := h.n6
    have ec : (nI mm).toNatClampNeg = mm := nI_clamp (by omega)
    obtain ⟨xx, hxx, rfl⟩ := jt_n (M := 9999) (n := 9999) (by decide) hx
    refine k _ _ r (fun Q' k' => ?_)
    refine jw ?_
    refine c_Mo_held (by decide) hv (fun z => absurd (h.im hm) z) (fun _ z => absurd hx z) (fun _ _ => ?_)
    rw [ec]
    refine jd' k' (JX.ji (h.now (mn2 := mn) (cl2 := cl) (n2 := n) (ln2 := ln) (q2 := q) (z2 := z) (h.1.mz rfl) (fun _ _ => rfl) ?_ tk.now h.2.2.1.2.2.2.2.1 (fun _ _ => rfl) (jA_up (by decide)))) (h.h1 mm (by omega)).symm
    obtain ⟨h1, h2, h3, ⟨h4, h4b, h4c⟩, h5⟩ := h.2.1
    refine ⟨h1, h2, h3, ⟨fun i hi => ?_, h4b, h4c⟩, h5⟩
    show ∃ hh, hh ≤ 9999 ∧ (if i = mm then nI xx else A 7 i) = nI hh ∧ (if i = mm then nI xx else K.2.1 0 1 i) = nI hh
    by_cases c : i = mm
    · rw [if_pos c, if_pos c]; exact ⟨xx, hxx, rfl, rfl⟩
    · rw [if_neg c, if_neg c]; exact h4 i hi
theorem jp_row {m pt x : Int32} (hD : 24 ≤ D) (hJ : JI K I A L r) (k : ∀ (v : Int32) (K2 : tc_K) (r2 : tc_r), jq G m_Mo_row [.int m, .int pt, .int x] (.int v) K2 r2 I A L → Q (some (.int v)) (HT K2 (JM I A L) r2)) : px_W G D 0 0 m_TC_row 0 (px_ent 5 [.ref 0, .int m, .int pt, .int x]) [] (HT K (JM I A L) r) Q := by
  obtain ⟨mn, sc, CS, ns, n, ln, cl, q, z, T, nf, h⟩ := hJ
  obtain ⟨bb, hw⟩ := h.w
  have hv : (0 ≤ m ∧ m ≤ I 0 - 1) → vp_in m 6 := (fun z => by
    obtain ⟨c, hc, rfl⟩ := h.mm z
    exact vp_in_nI (by have := h.n6; omega) (by decide))
  have hv2 : (0 ≤ m ∧ m ≤ I 0 - 1) → (0 ≤ pt ∧ pt ≤ 3) → vp_in (4 * m + pt) 24 := fun z z2 => by
    have hn6 := h.n6
    obtain ⟨c, hc, rfl⟩ := h.mm z
    obtain ⟨d, hd, rfl⟩ := jt_n (M := 3) (n := 3) (by decide) z2
    rw [show (4 : Int32) * nI c = nI (4 * c) from pk_mul 4 c, nI_add]
    exact vp_in_nI (by omega) (by decide)
  have hp3 : ∀ pp, pp < 4 → 0 ≤ nI pp ∧ nI pp ≤ 3 := fun pp hp => ⟨nI_pos' (by omega), nI_le (b := 3) (by omega) (by decide)⟩
  refine c_TC_row (B := 9999) (by omega) h.1 h.st (by decide) h.k7 h.hal (fun hn => ?_) (fun mm pp hm e hp ep hb => ?_) (fun mm pp hm e hp ep hx hk6 => ?_) (fun mm pp hm e hp ep hx hk => ?_)
  · have hn2 : ¬ ((0 ≤ m ∧ m ≤ I 0 - 1) ∧ (0 ≤ pt ∧ pt ≤ 3)) := fun z => hn ⟨h.man.mp z.1, z.2⟩
    refine k _ K r (fun Q' k' => ?_)
    refine jw ?_
    exact c_Mo_row (by decide) hv hv2 (fun _ => jd' k' h.ji rfl) (fun z => absurd z hn2) (fun z => absurd z hn2) (fun z => absurd z hn2)
  · subst e
    subst ep
    refine k _ K r (fun Q' k' => ?_)
    refine jw ?_
    exact c_Mo_row (by decide) hv hv2 (fun z => absurd ⟨h.im hm, hp3 pp hp⟩ z) (fun _ _ => jd' k' h.ji rfl) (fun _ z => absurd z hb) (fun _ z => absurd z hb)
  · subst e
    subst ep
    have hn6 := h.n6
    have ec : (nI mm).toNatClampNeg = mm := nI_clamp (by omega)
    refine k _ K r (fun Q' k' => ?_)
    refine jw ?_
    exact c_Mo_row (by decide) hv hv2 (fun z => absurd ⟨h.im hm, hp3 pp hp⟩ z) (fun _ z => absurd hx z) (fun _ _ _ => jd' k' h.ji rfl) (fun _ _ z => absurd (by rw [ec] at z; exact z) hk6)
  · subst e
    subst ep
    have hn6 := h.n6
    have ec : (nI mm).toNatClampNeg = mm := nI_clamp (by omega)
    have e4 : (4 : Int32) * nI mm + nI pp = nI (4 * mm + pp) := by rw [show (4 : Int32) * nI mm = nI (4 * mm) from pk_mul 4 mm, nI_add]
    obtain ⟨xx, hxx, rfl⟩ := jt_n (M := 9) (n := 9) (by decide) hx
    obtain ⟨y, hy, ey1, ey2⟩ := h.2.1.2.2.2.1.2.2 (4 * mm + pp) (by omega)
    refine k _ _ r (fun Q' k' => ?_)
    refine jw ?_
    refine c_Mo_row (by decide) hv hv2 (fun z => absurd ⟨h.im hm, hp3 pp hp⟩ z) (fun _ z => absurd hx z) (fun _ _ z => absurd (by rw [ec]; exact hk) z) (fun _ _ _ => ?_)
    rw [e4, nI_clamp (by omega)]
    refine jd' k' (JX.ji (h.now (mn2 := mn) (cl2 := cl) (n2 := n) (ln2 := ln) (q2 := q) (z2 := z) (h.1.mz rfl) (fun _ _ => rfl) ?_ tk.now h.2.2.1.2.2.2.2.1 (fun _ _ => rfl) (jA_up (by decide)))) (ey2.trans ey1.symm)
    obtain ⟨h1, h2, h3, ⟨h4, h4b, h4c⟩, h5⟩ := h.2.1
    refine ⟨h1, h2, h3, ⟨h4, h4b, fun i hi => ?_⟩, h5⟩
    show ∃ hh, hh ≤ 9 ∧ (if i = 4 * mm + pp then nI xx else K.2.1 0 3 i) = nI hh ∧ (if i = 4 * mm + pp then nI xx else A 9 i) = nI hh
    by_cases c : i = 4 * mm + pp
    · rw [if_pos c, if_pos c]; exact ⟨xx, hxx, rfl, rfl⟩
    · rw [if_neg c, if_neg c]; exact h4c i hi
theorem jp_pause {x : Int32} (hD : 24 ≤ D) (hJ : JI K I A L r) (k : ∀ (v : Int32) (K2 : tc_K) (r2 : tc_r), jq G m_Mo_pause [.int x] (.int v) K2 r2 I A L → Q (some (.int v)) (HT K2 (JM I A L) r2)) : px_W G D 0 0 m_TC_pause 0 (px_ent 2 [.ref 0, .int x]) [] (HT K (JM I A L) r) Q := by
  obtain ⟨mn, sc, CS, ns, n, ln, cl, q, z, T, nf, h⟩ := hJ
  obtain ⟨bb, hw⟩ := h.w
  refine c_TC_pause (by omega) (fun hb => ?_) (fun hx hs => ?_) (fun hx hs => ?_)
  · refine k _ K r (fun Q' k' => ?_)
    refine jw ?_
    exact c_Mo_pause (by decide) (fun _ => jd' k' h.ji rfl) (fun z => absurd z hb) (fun z => absurd z hb)
  · rw [h.k9] at hs
    refine k _ K r (fun Q' k' => ?_)
    refine jw ?_
    exact c_Mo_pause (by decide) (fun z => absurd hx z) (fun _ _ => jd' k' h.ji rfl) (fun _ z => absurd z hs)
  · rw [h.k9] at hs
    refine k _ _ r (fun Q' k' => ?_)
    refine jw ?_
    refine c_Mo_pause (by decide) (fun z => absurd hx z) (fun _ z => absurd hs z) (fun _ _ => ?_)
    refine jd' k' (JX.ji (h.now (mn2 := mn) (cl2 := cl) (n2 := n) (ln2 := ln) (q2 := q) (z2 := z) (h.1.mz rfl) (fun _ _ => rfl) ?_ tk.now h.2.2.1.2.2.2.2.1 (jI_up (by decide)) (fun _ _ => rfl))) (by rw [h.k9])
    obtain ⟨h1, h2⟩ := h.2.1
    exact ⟨⟨h1.1, h1.2.1, h1.2.2.1, h1.2.2.2.1, congrArg (· + x) h1.2.2.2.2.1, h1.2.2.2.2.2⟩, h2⟩
theorem jp_see {x : Int32} (hD : 24 ≤ D) (hJ : JI K I A L r) (k : ∀ (v : Int32) (K2 : tc_K) (r2 : tc_r), jq G m_Mo_see [.int x] (.int v) K2 r2 I A L → Q (some (.int v)) (HT K2 (JM I A L) r2)) : px_W G D 0 0 m_TC_see 0 (px_ent 2 [.ref 0, .int x]) [] (HT K (JM I A L) r) Q := by
  obtain ⟨mn, sc, CS, ns, n, ln, cl, q, z, T, nf, h⟩ := hJ
  obtain ⟨bb, hw⟩ := h.w
  obtain ⟨hq6, hq1, hq2, hq3⟩ := h.2.1.2.2.2.2.2.1
  have hv : ¬ I 42 = 6 → vp_in (I 42) 6 := fun z => by
    rw [hq1] at z ⊢
    exact vp_in_nI (by
      have : q ≠ 6 := fun e => z (by rw [e]; rfl)
      omega) (by decide)
  refine c_TC_see (ns := q) (by omega) hq2 hq6 (fun e => ?_) (fun e hb => ?_) (fun e hx h6 => ?_) (fun e hx h6 => ?_)
  · refine k _ _ r (fun Q' k' => ?_)
    refine jw ?_
    refine c_Mo_see (by decide) hv (fun _ => ?_) (fun z => absurd e z) (fun z => absurd e z) (fun z => absurd e z)
    refine jd' k' (JX.ji (h.now (mn2 := mn) (cl2 := cl) (n2 := n) (ln2 := ln) (z2 := z) (q2 := 0) (h.1.mz rfl) (fun _ _ => rfl) ?_ tk.now h.2.2.1.2.2.2.2.1 (jI_up (by decide)) (fun _ _ => rfl))) rfl
    obtain ⟨h1, h2, h3, h4, h5, h6, h7⟩ := h.2.1
    exact ⟨h1, h2, h3, h4, h5, ⟨by decide, rfl, rfl, fun i hi => absurd hi (Nat.not_lt_zero i)⟩, h7⟩
  · refine k _ K r (fun Q' k' => ?_)
    refine jw ?_
    exact c_Mo_see (by decide) hv (fun z => absurd z e) (fun _ _ => jd' k' h.ji rfl) (fun _ z => absurd z hb) (fun _ z => absurd z hb)
  · subst h6
    refine k _ K r (fun Q' k' => ?_)
    refine jw ?_
    exact c_Mo_see (by decide) hv (fun z => absurd z e) (fun _ z => absurd hx z) (fun _ _ _ => jd' k' h.ji rfl) (fun _ _ z => absurd hq1 z)
  · obtain ⟨xx, hxx, rfl⟩ := jt_n (M := 19) (n := 19) (by decide) hx
    refine k _ _ r (fun Q' k' => ?_)
    refine jw ?_
    refine c_Mo_see (by decide) hv (fun z => absurd z e) (fun _ z => absurd hx z) (fun _ _ z => absurd ((nI_eq (b := 6) (by omega) (by decide)).mp (hq1.symm.trans z)) (by omega)) (fun _ _ _ => ?_)
    rw [hq1, nI_clamp (by omega), nI_1]
    refine jd' k' (JX.ji (h.now (mn2 := mn) (cl2 := cl) (n2 := n) (ln2 := ln) (z2 := z) (q2 := q + 1) (h.1.mz rfl) (fun _ _ => rfl) ?_ tk.now h.2.2.1.2.2.2.2.1 (jI_up (by decide)) (jA_up (by decide)))) rfl
    obtain ⟨h1, h2, h3, h4, h5, h6', h7⟩ := h.2.1
    refine ⟨h1, h2, h3, h4, h5, ⟨by omega, rfl, rfl, fun i hi => ?_⟩, h7⟩
    show ∃ t, t < 20 ∧ (if i = q then nI xx else K.2.1 0 5 i) = nI t ∧ (if i = q then nI xx else A 43 i) = nI t
    by_cases c : i = q
    · rw [if_pos c, if_pos c]; exact ⟨xx, by omega, rfl, rfl⟩
    · rw [if_neg c, if_neg c]; exact hq3 i (by omega)
theorem jp_book {x u : Int32} (hu : u = 0 ∨ u = 1) (hD : 24 ≤ D) (hJ : JI K I A L r) (k : ∀ (v : Int32) (K2 : tc_K) (r2 : tc_r), jq G m_Mo_book [.int x, .int u] (.int v) K2 r2 I A L → Q (some (.int v)) (HT K2 (JM I A L) r2)) : px_W G D 0 0 m_TC_book 0 (px_ent 3 [.ref 0, .int x, .int u]) [] (HT K (JM I A L) r) Q := by
  obtain ⟨mn, sc, CS, ns, n, ln, cl, q, z, T, nf, h⟩ := hJ
  obtain ⟨bb, hw⟩ := h.w
  obtain ⟨hz8, hz1, hz2, hz3, hz4⟩ := h.2.1.2.2.2.2.2.2
  have hv : ¬ I 44 = 8 → vp_in (I 44) 8 := fun e => by
    rw [hz1] at e ⊢
    exact vp_in_nI (by
      have : z ≠ 8 := fun e2 => e (by rw [e2]; rfl)
      omega) (by decide)
  refine c_TC_book (ns := z) (by omega) hz2 hz8 (fun e => ?_) (fun e hb => ?_) (fun e hx h6 => ?_) (fun e hx h6 => ?_)
  · refine k _ _ r (fun Q' k' => ?_)
    refine jw ?_
    refine c_Mo_book (by decide) hv (fun _ => ?_) (fun z => absurd e z) (fun z => absurd e z) (fun z => absurd e z)
    refine jd' k' (JX.ji (h.now (mn2 := mn) (cl2 := cl) (n2 := n) (ln2 := ln) (q2 := q) (z2 := 0) (h.1.mz rfl) (fun _ _ => rfl) ?_ tk.now h.2.2.1.2.2.2.2.1 (jI_up (by decide)) (fun _ _ => rfl))) rfl
    obtain ⟨h1, h2, h3, h4, h5, h6, h7⟩ := h.2.1
    exact ⟨h1, h2, h3, h4, h5, h6, ⟨by decide, rfl, rfl, fun i hi => absurd hi (Nat.not_lt_zero i), hz4⟩⟩
  · refine k _ K r (fun Q' k' => ?_)
    refine jw ?_
    exact c_Mo_book (by decide) hv (fun z => absurd z e) (fun _ _ => jd' k' h.ji rfl) (fun _ z => absurd z hb) (fun _ z => absurd z hb)
  · subst h6
    refine k _ K r (fun Q' k' => ?_)
    refine jw ?_
    exact c_Mo_book (by decide) hv (fun z => absurd z e) (fun _ z => absurd hx z) (fun _ _ _ => jd' k' h.ji rfl) (fun _ _ z => absurd hz1 z)
  · obtain ⟨xx, hxx, rfl⟩ := jt_n (M := 19) (n := 19) (by decide) hx
    obtain ⟨uu, huu, eu, eu2, eu3⟩ : ∃ uu, uu ≤ 1 ∧ u = nI uu ∧ (if u = 0 then (0 : Int32) else 1) = nI uu ∧ vp_nar .boolean u = nI uu := by
      rcases hu with rfl | rfl
      · exact ⟨0, by decide, rfl, rfl, rfl⟩
      · exact ⟨1, by decide, rfl, rfl, rfl⟩
    refine k _ _ r (fun Q' k' => ?_)
    refine jw ?_
    refine c_Mo_book (by decide) hv (fun z => absurd z e) (fun _ z => absurd hx z) (fun _ _ e8 => absurd ((nI_eq (b := 8) (by omega) (by decide)).mp (hz1.symm.trans e8)) (by omega)) (fun _ _ _ => ?_)
    rw [hz1, nI_clamp (by omega), nI_1, eu3]
    refine jd' k' (JX.ji (h.now (mn2 := mn) (cl2 := cl) (n2 := n) (ln2 := ln) (q2 := q) (z2 := z + 1) (h.1.mz rfl) (fun _ _ => rfl) ?_ tk.now h.2.2.1.2.2.2.2.1 (jI_up (by decide)) (fun k hk => (jA_up (S := [5, 6, 7, 8, 9, 10, 43, 45, 46, 28]) (by decide) k hk).trans (jA_up (S := [5, 6, 7, 8, 9, 10, 43, 45, 46, 28]) (by decide) k hk)))) rfl
    obtain ⟨h1, h2, h3, h4, h5, h6', h7⟩ := h.2.1
    refine ⟨h1, h2, h3, h4, h5, h6', ⟨by omega, rfl, rfl, fun i hi => ?_, fun i hi => ?_⟩⟩
    · show ∃ t u2, t < 20 ∧ u2 ≤ 1 ∧ (if i = z then 2 * nI xx + (if u = 0 then 0 else 1) else K.2.1 0 6 i) = nI (2 * t + u2) ∧ (if i = z then nI xx else A 45 i) = nI t ∧ (if i = z then nI uu else A 46 i) = nI u2
      by_cases c : i = z
      · rw [if_pos c, if_pos c, if_pos c]
        exact ⟨xx, uu, by omega, huu, by rw [eu2, show (2 : Int32) * nI xx = nI (2 * xx) from pk_mul 2 xx, nI_add], rfl, rfl⟩
      · rw [if_neg c, if_neg c, if_neg c]; exact hz3 i (by omega)
    · show ∃ u2, u2 ≤ 1 ∧ (if i = z then nI uu else A 46 i) = nI u2
      by_cases c : i = z
      · rw [if_pos c]; exact ⟨uu, huu, rfl⟩
      · rw [if_neg c]; exact hz4 i hi
theorem jp_feed {x : Int32} (hD : 24 ≤ D) (hJ : JI K I A L r) (k : ∀ (v : Int32) (K2 : tc_K) (r2 : tc_r), jq G m_Mo_feed [.int x] (.int v) K2 r2 I A L → Q (some (.int v)) (HT K2 (JM I A L) r2)) : px_W G D 0 0 m_TC_feed 0 (px_ent 2 [.ref 0, .int x]) [] (HT K (JM I A L) r) Q := by
  obtain ⟨mn, sc, CS, ns, n, ln, cl, q, z, T, nf, h⟩ := hJ
  obtain ⟨bb, hw⟩ := h.w
  obtain ⟨hf1, hf2, hf3, hf4⟩ := h.2.2.1.2.1
  have hv : ¬ I 13 = 100 → vp_in (I 13) 100 := fun e => by
    rw [hf3] at e ⊢
    exact vp_in_nI (by
      have : nf ≠ 100 := fun e2 => e (by rw [e2]; rfl)
      omega) (by decide)
  refine c_TC_feed (nf := nf) (by omega) hf2 hf1 (fun hb => ?_) (fun hx h6 => ?_) (fun t ht e hx h6 => ?_)
  · refine k _ K r (fun Q' k' => ?_)
    refine jw ?_
    exact c_Mo_feed (by decide) hv (fun _ => jd' k' h.ji rfl) (fun z => absurd z hb) (fun z => absurd z hb)
  · subst h6
    refine k _ K r (fun Q' k' => ?_)
    refine jw ?_
    exact c_Mo_feed (by decide) hv (fun z => absurd hx z) (fun _ _ => jd' k' h.ji rfl) (fun _ z => absurd hf3 z)
  · subst e
    refine k _ _ r (fun Q' k' => ?_)
    refine jw ?_
    refine c_Mo_feed (by decide) hv (fun z => absurd hx z) (fun _ z => absurd ((nI_eq (b := 100) (by omega) (by decide)).mp (hf3.symm.trans z)) (by omega)) (fun _ _ => ?_)
    rw [hf3, nI_clamp (by omega), nI_1]
    refine jd' k' (JX.ji (mn := mn) (sc := sc) (CS := CS) (ns := ns) (n := n) (ln := ln) (cl := cl) (q := q) (z := z) (T := fun i => if i = nf then t else T i) (nf := nf + 1) ⟨h.1.mz rfl, h.2.1, ⟨h.2.2.1.1, ⟨by omega, rfl, rfl, fun i hi => ?_⟩, h.2.2.1.2.2.1, h.tps (fun t _ => if_neg (by omega)) rfl rfl rfl rfl, h.2.2.1.2.2.2.2.1, h.e32⟩, h.2.2.2⟩) rfl
    show (if i = nf then t else T i) < 128 ∧ (if i = nf then nI t else K.2.1 5 4 i) = nI (if i = nf then t else T i) ∧ (if i = nf then nI t else A 16 i) = nI (if i = nf then t else T i)
    by_cases c : i = nf
    · rw [if_pos c, if_pos c, if_pos c]; exact ⟨ht, rfl, rfl⟩
    · rw [if_neg c, if_neg c, if_neg c]; exact hf4 i (by omega)
end JPF
