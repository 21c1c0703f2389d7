/-! THE INVARIANT OF THE TWO SIDES -/
abbrev JM (I : Nat → Int32) (A : Nat → Nat → Int32) (L : Nat → Nat → Int64) : px_H := .inr (12, MF 58 I) :: MA A L
/-- one snapshot on both sides: n men in the row ln, the clauses cl, q SEEN, z of the BOOK; CS: the scaffolds' clauses, ns how many -/
def js (mn : tc_mn) (sc : tc_sc) (CS : Nat → List sp_Cl) (ns : Nat) (j : Nat → Int32) (b : Nat → Nat → Int32) (w : Nat → Option Nat) (v : Nat) (the men tn up fl sn bn : Int32) (a5 a6 a7 a8 a9 a10 a43 a45 a46 : Nat → Int32) (n : Nat) (ln : Nat → Nat) (cl : List sp_Cl) (q z : Nat) : Prop :=
  (n ≤ 6 ∧ men = nI n ∧ j 7 = nI n ∧ j 8 = nI n ∧ j 9 = tn ∧ j 10 = up ∧ j 11 = fl ∧ (∃ u, u ≤ 9999 ∧ up = nI u) ∧ ∃ u, u ≤ 9999 ∧ fl = nI u) ∧
  ((∀ p, p < n → ln p < n ∧ a10 p = nI (ln p) ∧ b 4 p = nI (ln p)) ∧ (∀ m, m < n → ∃ p, p < n ∧ ln p = m) ∧ ∀ p p2, p < n → p2 < n → ln p = ln p2 → p = p2) ∧
  (hall mn w n a5 a6 ∧ (∀ m, m < 6 → ∃ vv, vv ≤ 9 ∧ a6 m = nI vv) ∧ mn_ok mn w) ∧
  ((∀ m, m < 6 → ∃ hh, hh ≤ 9999 ∧ a7 m = nI hh ∧ b 1 m = nI hh) ∧ (∀ m, m < 6 → b 2 m = a8 m) ∧ ∀ i, i < 24 → ∃ x, x ≤ 9 ∧ b 3 i = nI x ∧ a9 i = nI x) ∧
  (sc.1 v = some cl ∧ tc_gd cl ∧ ((the = -1 ∧ cl = []) ∨ ∃ s, s < ns ∧ the = nI s ∧ cl = CS s)) ∧
  (q ≤ 6 ∧ sn = nI q ∧ j 12 = nI q ∧ ∀ i, i < q → ∃ t, t < 20 ∧ b 5 i = nI t ∧ a43 i = nI t) ∧
  (z ≤ 8 ∧ bn = nI z ∧ j 13 = nI z ∧ (∀ i, i < z → ∃ t u, t < 20 ∧ u ≤ 1 ∧ b 6 i = nI (2 * t + u) ∧ a45 i = nI t ∧ a46 i = nI u) ∧ ∀ i, i < 8 → ∃ u, u ≤ 1 ∧ a46 i = nI u)
/-- the rest: scaffolds, the text, bodies, tapes -/
def jz (sc : tc_sc) (CS : Nat → List sp_Cl) (ns : Nat) (K : tc_K) (I : Nat → Int32) (A : Nat → Nat → Int32) (L : Nat → Nat → Int64) (T : Nat → Nat) (nf : Nat) : Prop :=
  (K.1 5 8 = nI ns ∧ I 11 = nI ns ∧ ns ≤ 6 ∧ (∀ s, s < ns → mo_cs A s (CS s)) ∧ (ns < 6 → K.2.2.1 4 ns = none ∨ ∃ c, K.2.2.1 4 ns = some c ∧ sc.2 c = true) ∧ ∀ i, ns < i → i < 6 → K.2.2.1 4 i = none) ∧
  (nf ≤ 100 ∧ K.1 5 9 = nI nf ∧ I 13 = nI nf ∧ ∀ i, i < nf → T i < 128 ∧ K.2.1 5 4 i = nI (T i) ∧ A 16 i = nI (T i)) ∧
  (K.2.1 5 6 0 = I 64 ∧ ∀ i, i < 20 → K.2.1 5 6 (1 + i) = A 65 i) ∧
  (∀ t, t < 6 → K.1 (6 + t) 1 = A 66 t ∧ K.1 (6 + t) 2 = A 67 t ∧ (-1 ≤ A 66 t ∧ A 66 t ≤ 4) ∧ (∃ l, l ≤ 60 ∧ A 67 t = nI l ∧ (A 66 t < 0 → l = 0)) ∧ ∀ i, i < 60 → K.2.2.2.2 t i = L 68 (60 * t + i)) ∧
  I 1 = I 0 ∧ I 32 = 9999
/-- the image -/
def jv (mn : tc_mn) (sc : tc_sc) (CS : Nat → List sp_Cl) (ns : Nat) (K : tc_K) (I : Nat → Int32) (A : Nat → Nat → Int32) : Prop :=
  mn_ok mn (K.2.2.1 1) ∧ (∀ i, i < 8 → ∃ u, u ≤ 1 ∧ A 63 i = nI u) ∧
  ((K.1 5 10 = 0 ∧ I 47 = 0) ∨ (K.1 5 10 = 1 ∧ I 47 = 1 ∧ ∃ n1 ln1 cl1 q1 z1, js mn sc CS ns (K.1 1) (K.2.1 1) (K.2.2.1 1) (K.2.2.2.1 1) (I 48) (I 49) (I 50) (I 51) (I 52) (I 53) (I 54) (A 55) (A 56) (A 57) (A 58) (A 60) (A 59) (A 61) (A 62) (A 63) n1 ln1 cl1 q1 z1))
def JX (mn : tc_mn) (sc : tc_sc) (CS : Nat → List sp_Cl) (ns n : Nat) (ln : Nat → Nat) (cl : List sp_Cl) (q z : Nat) (T : Nat → Nat) (nf : Nat) (K : tc_K) (I : Nat → Int32) (A : Nat → Nat → Int32) (L : Nat → Nat → Int64) (r : tc_r) : Prop :=
  tc_R mn sc (JM I A L) r ∧ js mn sc CS ns (K.1 0) (K.2.1 0) (K.2.2.1 0) (K.2.2.2.1 0) (I 12) (I 0) (I 2) (I 3) (I 4) (I 42) (I 44) (A 5) (A 6) (A 7) (A 8) (A 9) (A 10) (A 43) (A 45) (A 46) n ln cl q z ∧ jz sc CS ns K I A L T nf ∧ jv mn sc CS ns K I A
def JI (K : tc_K) (I : Nat → Int32) (A : Nat → Nat → Int32) (L : Nat → Nat → Int64) (r : tc_r) : Prop := ∃ mn sc CS ns n ln cl q z T nf, JX mn sc CS ns n ln cl q z T nf K I A L r
theorem tc_R.mz {mn : tc_mn} {sc : tc_sc} {MZ MZ2 : px_H} {r : tc_r} (h : tc_R mn sc MZ r) (h2 : MZ2.length = 39) : tc_R mn sc MZ2 r := ⟨h2, h.2⟩
section JXF
variable {mn : tc_mn} {sc : tc_sc} {CS : Nat → List sp_Cl} {ns n : Nat} {ln : Nat → Nat} {cl : List sp_Cl} {q z : Nat} {T : Nat → Nat} {nf : Nat} {K : tc_K} {I : Nat → Int32} {A : Nat → Nat → Int32} {L : Nat → Nat → Int64} {r : tc_r}
/-- what is only asked, in the class -/
theorem JX.ask {K2 : tc_K} {r2 : tc_r} (h : JX mn sc CS ns n ln cl q z T nf K I A L r) (hk : tk [2, 3, 4] K K2) (hR : tc_R mn sc (JM I A L) r2) : JX mn sc CS ns n ln cl q z T nf K2 I A L r2 := by
  obtain ⟨k00, k01, k02, k03⟩ := hk.1 0 (by decide)
  obtain ⟨k10, k11, k12, k13⟩ := hk.1 1 (by decide)
  obtain ⟨k50, k51, k52, k53⟩ := hk.1 5 (by decide)
  have k6 : ∀ t, K2.1 (6 + t) = K.1 (6 + t) := fun t => (hk.1 (6 + t) (by simp; omega)).1
  refine ⟨hR, ?_, ?_, ?_⟩
  · rw [k00, k01, k02, k03]; exact h.2.1
  · unfold jz
    rw [k50, k51, hk.2.1, hk.2.2]
    simp only [k6]
    exact h.2.2.1
  · unfold jv
    rw [k10, k11, k12, k13, k50]
    exact h.2.2.2
/-- what is only asked, in the reference -/
theorem JX.ms {I2 : Nat → Int32} {A2 : Nat → Nat → Int32} {SI SA : List Nat} (h : JX mn sc CS ns n ln cl q z T nf K I A L r) (hm : ms SI SA I I2 A A2) (h1 : ∀ k, k ∈ SI → k ∈ [14, 15, 24, 25, 26, 29, 30, 31, 33, 36, 37, 38]) (h2 : ∀ k, k ∈ SA → k ∈ [23, 28, 34, 35, 39, 40, 41]) : JX mn sc CS ns n ln cl q z T nf K I2 A2 L r := by
  have hm := hm.mo h1 h2
  have i := fun k (hk : k ∉ [14, 15, 24, 25, 26, 29, 30, 31, 33, 36, 37, 38]) => hm.1 k hk
  have a := fun k (hk : k ∉ [23, 28, 34, 35, 39, 40, 41]) => hm.2 k hk
  refine ⟨h.1.mz rfl, ?_, ?_, ?_⟩
  · rw [i 12 (by decide), i 0 (by decide), i 2 (by decide), i 3 (by decide), i 4 (by decide), i 42 (by decide), i 44 (by decide), a 5 (by decide), a 6 (by decide), a 7 (by decide), a 8 (by decide), a 9 (by decide), a 10 (by decide), a 43 (by decide), a 45 (by decide), a 46 (by decide)]
    exact h.2.1
  · unfold jz mo_cs mo_clb
    rw [i 11 (by decide), i 13 (by decide), i 64 (by decide), i 1 (by decide), i 0 (by decide), i 32 (by decide), a 16 (by decide), a 65 (by decide), a 66 (by decide), a 67 (by decide), a 17 (by decide), a 18 (by decide), a 19 (by decide), a 20 (by decide), a 21 (by decide), a 22 (by decide)]
    exact h.2.2.1
  · unfold jv
    rw [i 47 (by decide), i 48 (by decide), i 49 (by decide), i 50 (by decide), i 51 (by decide), i 52 (by decide), i 53 (by decide), i 54 (by decide), a 55 (by decide), a 56 (by decide), a 57 (by decide), a 58 (by decide), a 59 (by decide), a 60 (by decide), a 61 (by decide), a 62 (by decide), a 63 (by decide)]
    exact h.2.2.2
theorem js.b {j : Nat → Int32} {b : Nat → Nat → Int32} {w : Nat → Option Nat} {v : Nat} {the men tn up fl sn bn : Int32} {a5 a6 a7 a8 a9 a10 a43 a45 a46 : Nat → Int32} (h : js mn sc CS ns j b w v the men tn up fl sn bn a5 a6 a7 a8 a9 a10 a43 a45 a46 n ln cl q z) : n ≤ 6 := h.1.1
theorem JX.n6 (h : JX mn sc CS ns n ln cl q z T nf K I A L r) : n ≤ 6 := h.2.1.1.1
theorem JX.i0 (h : JX mn sc CS ns n ln cl q z T nf K I A L r) : I 0 = nI n := h.2.1.1.2.1
theorem JX.k7 (h : JX mn sc CS ns n ln cl q z T nf K I A L r) : K.1 0 7 = nI n := h.2.1.1.2.2.1
theorem JX.k9 (h : JX mn sc CS ns n ln cl q z T nf K I A L r) : K.1 0 9 = I 2 := h.2.1.1.2.2.2.2.1
theorem JX.hal (h : JX mn sc CS ns n ln cl q z T nf K I A L r) : hall mn (K.2.2.1 0) n (A 5) (A 6) := h.2.1.2.2.1.1
theorem JX.st (h : JX mn sc CS ns n ln cl q z T nf K I A L r) : st_ok mn sc K 0 n 9999 (A 5) (A 6) ln cl := by
  obtain ⟨h1, ⟨h2, -⟩, ⟨h3, h3b, h3c⟩, ⟨h4, h4b, h4c⟩, ⟨h5, h5b, -⟩, -⟩ := h.2.1
  refine ⟨⟨h1.1, h1.2.2.2.1, fun p hp => ?_⟩, fun m hm => ?_, fun i hi => ?_, h3c, h5, h5b⟩
  · obtain ⟨g1, g2, g3⟩ := h2 p hp
    exact ⟨by have := h1.1; omega, g3, h3 _ g1⟩
  · obtain ⟨hh, g1, g2, g3⟩ := h4 m hm
    exact ⟨hh, g1, g3⟩
  · obtain ⟨x, g1, g2, g3⟩ := h4c i hi
    exact ⟨x, g1, g2⟩
theorem JX.cur (h : JX mn sc CS ns n ln cl q z T nf K I A L r) : ∃ bb, mo_cur I A bb cl := by
  obtain ⟨-, -, -, -, ⟨-, -, h5⟩, -⟩ := h.2.1
  rcases h5 with ⟨h5, rfl⟩ | ⟨s, h5, h6, rfl⟩
  · exact ⟨0, Or.inl ⟨h5, rfl, rfl⟩, by decide, fun j c hc => by cases hc⟩
  · have h7 := h.2.2.1.1.2.2
    exact ⟨10 * s, (h7.2.1 s h5).cur (by have := h7.1; omega) h6⟩
theorem JX.w (h : JX mn sc CS ns n ln cl q z T nf K I A L r) : ∃ bb, mo_w I A n ln bb cl := by
  obtain ⟨bb, hc⟩ := h.cur
  obtain ⟨h1, ⟨h2, -⟩, ⟨h3, h3b, h3c⟩, -⟩ := h.2.1
  refine ⟨bb, h1.1, ?_, fun p hp => ?_, h3b, hc, 9999, by decide, h.2.2.1.2.2.2.2.2⟩
  · rw [h.2.2.1.2.2.2.2.1]; exact h1.2.1
  · obtain ⟨g1, g2, g3⟩ := h2 p hp
    exact ⟨by have := h1.1; omega, g2⟩
theorem JX.e32 (h : JX mn sc CS ns n ln cl q z T nf K I A L r) : I 32 = 9999 := h.2.2.1.2.2.2.2.2
theorem JX.hb (h : JX mn sc CS ns n ln cl q z T nf K I A L r) : mo_hb A := fun m hm => by
  obtain ⟨hh, g1, g2, -⟩ := h.2.1.2.2.2.1.1 m hm
  exact ⟨hh, g1, g2⟩
theorem JX.hpl (h : JX mn sc CS ns n ln cl q z T nf K I A L r) : ∀ mm, mm < n → ∃ a, a < n ∧ K.2.1 0 4 a = nI mm ∧ ∀ i, i < a → K.2.1 0 4 i ≠ nI mm := by
  intro mm hm
  obtain ⟨h2, h2b⟩ := h.2.1.2.1
  obtain ⟨p, hp, e⟩ := h2b.1 mm hm
  obtain ⟨a, g1, g2, g3⟩ := jf_first (f := K.2.1 0 4) (x := nI mm) p (by rw [(h2 p hp).2.2, e])
  exact ⟨a, by omega, g2, g3⟩
/-- the same place in the reference -/
theorem JX.pl (h : JX mn sc CS ns n ln cl q z T nf K I A L r) {mm a : Nat} (hm : mm < n) (ha : a < n) (h1 : K.2.1 0 4 a = nI mm) : ln a = mm ∧ A 10 a = nI mm ∧ ∀ i, i < a → A 10 i ≠ nI mm := by
  have hn := h.n6
  obtain ⟨h3, h4, h5⟩ := h.2.1.2.1
  have e : ln a = mm := (nI_eq (by have := (h3 a ha).1; omega) (by omega)).mp ((h3 a ha).2.2.symm.trans h1)
  refine ⟨e, ?_, fun i hi z => ?_⟩
  · rw [(h3 a ha).2.1, e]
  · rw [(h3 i (by omega)).2.1] at z
    have e2 := (nI_eq (by have := (h3 i (by omega)).1; omega) (by omega)).mp z
    have := h5 i a (by omega) ha (e2.trans e.symm)
    omega
theorem JX.se (h : JX mn sc CS ns n ln cl q z T nf K I A L r) {ln2 : Nat → Nat} {n2 : Nat} (hl : ∀ p, p < n2 → ln2 p < 6) : sp_se (A 5, A 6, K.2.1 0 3, ln2, n2, cl) (A 5, A 6, A 9, ln2, n2, cl) := by
  refine ⟨fun m _ => ⟨rfl, rfl⟩, fun i hi => ?_, rfl, fun p hp => ⟨rfl, hl p hp⟩⟩
  obtain ⟨x, -, g2, g3⟩ := h.2.1.2.2.2.1.2.2 i hi
  exact g2.trans g3.symm
theorem JX.ln6 (h : JX mn sc CS ns n ln cl q z T nf K I A L r) : ∀ p, p < n → ln p < 6 := fun p hp => by
  have := (h.2.1.2.1.1 p hp).1
  have := h.n6
  omega
theorem JX.h1 (h : JX mn sc CS ns n ln cl q z T nf K I A L r) : sp_he (K.2.1 0 1) (A 7) := fun m hm => by
  obtain ⟨hh, -, g2, g3⟩ := h.2.1.2.2.2.1.1 m hm
  exact g3.trans g2.symm
theorem JX.h2 (h : JX mn sc CS ns n ln cl q z T nf K I A L r) : sp_he (K.2.1 0 2) (A 8) := h.2.1.2.2.2.1.2.1
theorem JX.h40 (h : JX mn sc CS ns n ln cl q z T nf K I A L r) (m : Nat) : sp_he (up40 (K.2.1 0 1) m) (up40 (A 7) m) := fun i hi => by
  show (if i = m then _ else K.2.1 0 1 i) = (if i = m then _ else A 7 i)
  by_cases c : i = m
  · rw [if_pos c, if_pos c, ← c, h.h1 i hi]
  · rw [if_neg c, if_neg c, h.h1 i hi]
/-- how many men: a MAN's number -/
theorem JX.man (h : JX mn sc CS ns n ln cl q z T nf K I A L r) {m : Int32} : (0 ≤ m ∧ m ≤ I 0 - 1) ↔ (0 ≤ m ∧ m < nI n) := by
  have hn := h.n6
  rw [h.i0]
  constructor
  · rintro ⟨h1, h2⟩
    obtain ⟨c, hc, rfl⟩ := nI_of (Int32.not_lt.mpr h1)
    refine ⟨h1, ?_⟩
    by_cases h0 : n = 0
    · subst h0
      exact absurd h2 (fun z => nI_pos hc (Int32.lt_of_le_of_lt z (by decide)))
    · rw [show nI n = nI (n - 1 + 1) from congrArg nI (by omega), nI_pred] at h2
      exact (nI_ltI hc (by omega)).mpr (by have := (nI_leI hc (by omega)).mp h2; omega)
  · rintro ⟨h1, h2⟩
    obtain ⟨c, hc, rfl⟩ := nI_of (Int32.not_lt.mpr h1)
    have hcn := (nI_ltI hc (by omega)).mp h2
    refine ⟨h1, ?_⟩
    rw [show nI n = nI (n - 1 + 1) from congrArg nI (by omega), nI_pred]
    exact nI_le (by omega) (by omega)
end JXF
