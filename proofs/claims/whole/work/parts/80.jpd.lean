section JPG
variable {mn : tc_mn} {sc : tc_sc} {CS : Nat → List sp_Cl} {ns n : Nat} {ln : Nat → Nat} {cl : List sp_Cl} {q z : Nat} {T : Nat → Nat} {nf : Nat} {K : tc_K} {I : Nat → Int32} {A : Nat → Nat → Int32} {L : Nat → Nat → Int64} {r : tc_r}
/-- one tape changes -/
theorem JX.tpe (h : JX mn sc CS ns n ln cl q z T nf K I A L r) {K2 : tc_K} {A2 : Nat → Nat → Int32} {L2 : Nat → Nat → Int64} {t : Nat} (ht : t < 6) (hk : tpk t K K2) (hA : ∀ k, k ∉ [66, 67] → A2 k = A k) (h6 : ∀ i, i ≠ t → A2 66 i = A 66 i ∧ A2 67 i = A 67 i) (hl : ∀ i j, i < 6 → i ≠ t → j < 60 → L2 68 (60 * i + j) = L 68 (60 * i + j)) (e1 : K2.1 (6 + t) 1 = A2 66 t) (e2 : K2.1 (6 + t) 2 = A2 67 t) (e3 : -1 ≤ A2 66 t ∧ A2 66 t ≤ 4) (e4 : ∃ l, l ≤ 60 ∧ A2 67 t = nI l ∧ (A2 66 t < 0 → l = 0)) (e5 : ∀ i, i < 60 → K2.2.2.2.2 t i = L2 68 (60 * t + i)) : JX mn sc CS ns n ln cl q z T nf K2 I A2 L2 r := by
  obtain ⟨k1, k2, k3, k4, k5⟩ := hk
  refine ⟨h.1.mz rfl, ?_, ⟨?_, ?_, ?_, fun i hi => ?_, h.2.2.1.2.2.2.2.1, h.e32⟩, ?_⟩
  · rw [k1, k2, k3, k4 0 (by omega), hA 5 (by decide), hA 6 (by decide), hA 7 (by decide), hA 8 (by decide), hA 9 (by decide), hA 10 (by decide), hA 43 (by decide), hA 45 (by decide), hA 46 (by decide)]
    exact h.2.1
  · rw [k2, k4 5 (by omega)]
    unfold mo_cs mo_clb
    rw [hA 17 (by decide), hA 18 (by decide), hA 19 (by decide), hA 20 (by decide), hA 21 (by decide), hA 22 (by decide)]
    exact h.2.2.1.1
  · rw [k1, k4 5 (by omega), hA 16 (by decide)]
    exact h.2.2.1.2.1
  · rw [k1, hA 65 (by decide)]
    exact h.2.2.1.2.2.1
  · by_cases c : i = t
    · subst c
      exact ⟨e1, e2, e3, e4, e5⟩
    · obtain ⟨g1, g2⟩ := h6 i c
      rw [k4 (6 + i) (by omega), k5 i c, g1, g2]
      obtain ⟨q1, q2, q3, q4, q5⟩ := h.2.2.1.2.2.2.1 i hi
      exact ⟨q1, q2, q3, q4, fun j hj => (q5 j hj).trans (hl i j hi c hj).symm⟩
  · unfold jv
    rw [k1, k2, k3, k4 1 (by omega), k4 5 (by omega), hA 55 (by decide), hA 56 (by decide), hA 57 (by decide), hA 58 (by decide), hA 59 (by decide), hA 60 (by decide), hA 61 (by decide), hA 62 (by decide), hA 63 (by decide)]
    exact h.2.2.2
theorem tpk.y {K : tc_K} {t : Nat} {y : Nat → Int64} : tpk t K (kY K t y) := ⟨rfl, rfl, rfl, fun _ _ => rfl, fun _ h => if_neg h⟩
/-- bodies ran -/
theorem JX.act (h : JX mn sc CS ns n ln cl q z T nf K I A L r) {K2 : tc_K} {I2 : Nat → Int32} {A2 : Nat → Nat → Int32} {t : sp_T} (hk : rk K K2) (hn : rn (K2.2.1 5 6) t) (hI : ∀ k, k ≠ 64 → I2 k = I k) (hA : ∀ k, k ≠ 65 → A2 k = A k) (e1 : I2 64 = nI t.1) (e2 : A2 65 = t.2) : JX mn sc CS ns n ln cl q z T nf K2 I2 A2 L r := by
  obtain ⟨hk0, hk1, hk2, hk3, hk4⟩ := hk
  obtain ⟨k00, k01, k02, k03⟩ := hk0.1 0 (by decide)
  obtain ⟨k10, k11, k12, k13⟩ := hk0.1 1 (by decide)
  refine ⟨h.1.mz rfl, ?_, ⟨?_, ?_, ?_, h.tps (fun t _ => (hk0.1 (6 + t) (by simp; omega)).1) hk0.2.1 (hA 66 (by decide)) (hA 67 (by decide)) rfl, ?_, ?_⟩, ?_⟩
  · rw [k00, k01, k02, k03, hI 12 (by decide), hI 0 (by decide), hI 2 (by decide), hI 3 (by decide), hI 4 (by decide), hI 42 (by decide), hI 44 (by decide), hA 5 (by decide), hA 6 (by decide), hA 7 (by decide), hA 8 (by decide), hA 9 (by decide), hA 10 (by decide), hA 43 (by decide), hA 45 (by decide), hA 46 (by decide)]
    exact h.2.1
  · rw [hk1, hk0.2.2, hI 11 (by decide)]
    unfold mo_cs mo_clb
    rw [hA 17 (by decide), hA 18 (by decide), hA 19 (by decide), hA 20 (by decide), hA 21 (by decide), hA 22 (by decide)]
    exact h.2.2.1.1
  · rw [hk1, hk4 4 (by decide), hI 13 (by decide), hA 16 (by decide)]
    exact h.2.2.1.2.1
  · rw [e1, e2]
    exact hn
  · rw [hI 1 (by decide), hI 0 (by decide)]
    exact h.2.2.1.2.2.2.2.1
  · rw [hI 32 (by decide)]
    exact h.e32
  · unfold jv
    rw [k10, k11, k12, k13, hk1, hI 47 (by decide), hI 48 (by decide), hI 49 (by decide), hI 50 (by decide), hI 51 (by decide), hI 52 (by decide), hI 53 (by decide), hI 54 (by decide), hA 55 (by decide), hA 56 (by decide), hA 57 (by decide), hA 58 (by decide), hA 59 (by decide), hA 60 (by decide), hA 61 (by decide), hA 62 (by decide), hA 63 (by decide)]
    exact h.2.2.2
theorem jt_sub {l c a : Nat} (hl : l ≤ 60) (hc : c < 2 ^ 31) (ha : a < 2 ^ 31) : nI l - nI c < nI a ↔ ¬ a + c ≤ l := by
  have e : (nI l - nI c).toInt = (l : Int) - (c : Int) := by
    rw [Int32.toInt_sub, nI_toInt (by omega), nI_toInt hc]
    exact Int.bmod_eq_of_le (by omega) (by omega)
  rw [Int32.lt_iff_toInt_lt, e, nI_toInt ha]
  omega
/-- the order of the places when one goes from a to k -/
def jp_sg (a k p : Nat) : Nat := if p = k then a else if a ≤ p ∧ p < k then p + 1 else if k < p ∧ p ≤ a then p - 1 else p
theorem sg_lt {n a k p : Nat} (ha : a < n) (hk : k < n) (hp : p < n) : jp_sg a k p < n := by
  unfold jp_sg
  split
  · exact ha
  · split
    · omega
    · split <;> omega
theorem sg_inj {n a k p p2 : Nat} (h : jp_sg a k p = jp_sg a k p2) : p = p2 := by
  unfold jp_sg at h
  split at h <;> split at h <;> (try split at h) <;> (try split at h) <;> (try split at h) <;> (try split at h) <;> omega
theorem sg_sur {a k : Nat} (q : Nat) : ∃ p, jp_sg a k p = q ∧ ∀ n, a < n → k < n → q < n → p < n := by
  by_cases c1 : q = a
  · exact ⟨k, by rw [jp_sg, if_pos rfl, c1], fun n _ h _ => h⟩
  · by_cases c2 : a < q ∧ q ≤ k
    · refine ⟨q - 1, ?_, fun n _ _ h => by omega⟩
      rw [jp_sg, if_neg (by omega), if_pos (by omega)]; omega
    · by_cases c3 : k ≤ q ∧ q < a
      · refine ⟨q + 1, ?_, fun n h _ _ => by omega⟩
        rw [jp_sg, if_neg (by omega), if_neg (by omega), if_pos (by omega)]; omega
      · refine ⟨q, ?_, fun n _ _ h => h⟩
        rw [jp_sg, if_neg (by omega), if_neg (by omega), if_neg (by omega)]
theorem plc_m {f : Nat → Int32} {x : Int32} {n a k p : Nat} (hx : f a = x) (ha : a < n) (hk : k < n) (hp : p < n) : sp_plc f a k x p = f (jp_sg a k p) := by
  unfold sp_plc jp_sg
  show (if p = k then x else sp_s2 (sp_s1 f a k) a k p) = _
  by_cases c : p = k
  · rw [if_pos c, if_pos c, hx]
  · rw [if_neg c, if_neg c]
    unfold sp_s2 sp_s1
    by_cases c1 : k < p ∧ p ≤ a
    · rw [if_pos c1, if_neg (by omega), if_neg (by omega), if_pos c1]
    · rw [if_neg c1]
      by_cases c2 : a ≤ p ∧ p < k
      · rw [if_pos c2, if_pos c2]
      · rw [if_neg c2, if_neg c2, if_neg c1]
theorem plc_c {f : Nat → Int32} {x : Int32} {n a k p : Nat} (hx : f a = x) (ha : a < n) (hk : k < n) (hp : p < n) : upd (va_cpy (va_cpy f f (a + 1) a (n - a - 1)) (va_cpy f f (a + 1) a (n - a - 1)) k (k + 1) (n - 1 - k)) k x p = f (jp_sg a k p) := by
  unfold jp_sg
  show (if p = k then x else va_cpy (va_cpy f f (a + 1) a (n - a - 1)) (va_cpy f f (a + 1) a (n - a - 1)) k (k + 1) (n - 1 - k) p) = _
  by_cases c : p = k
  · rw [if_pos c, if_pos c, hx]
  · rw [if_neg c, if_neg c]
    unfold va_cpy
    by_cases c1 : k < p
    · rw [if_pos (show k + 1 ≤ p ∧ p < k + 1 + (n - 1 - k) by omega), show k + (p - (k + 1)) = p - 1 by omega, if_neg (show ¬ (a ≤ p ∧ p < k) by omega)]
      by_cases c2 : p ≤ a
      · rw [if_neg (show ¬ (a ≤ p - 1 ∧ p - 1 < a + (n - a - 1)) by omega), if_pos ⟨c1, c2⟩]
      · rw [if_pos (show a ≤ p - 1 ∧ p - 1 < a + (n - a - 1) by omega), if_neg (fun z => c2 z.2)]
        congr 1
        omega
    · rw [if_neg (show ¬ (k + 1 ≤ p ∧ p < k + 1 + (n - 1 - k)) by omega), if_neg (show ¬ (k < p ∧ p ≤ a) by omega)]
      by_cases c2 : a ≤ p
      · rw [if_pos (show a ≤ p ∧ p < a + (n - a - 1) by omega), if_pos (show a ≤ p ∧ p < k by omega)]
        congr 1
        omega
      · rw [if_neg (fun z => c2 z.1), if_neg (fun z => c2 z.1)]
end JPG
section JPH
variable {G : px_G} {D : Nat} {Q : Option Value → px_H → Prop} {K : tc_K} {I : Nat → Int32} {A : Nat → Nat → Int32} {L : Nat → Nat → Int64} {r : tc_r}

theorem jp_tape {y sv nv : Int32} (hD : 24 ≤ D) (hJ : JI K I A L r) (k : ∀ (v : Int32) (K2 : tc_K) (r2 : tc_r), jq G m_Mo_tape [.int y, .int sv, .int nv] (.int v) K2 r2 I A L → Q (some (.int v)) (HT K2 (JM I A L) r2)) : px_W G D 0 0 m_TC_tape 0 (px_ent 4 [.ref 0, .int y, .int sv, .int nv]) [] (HT K (JM I A L) r) Q := by
  obtain ⟨mn, sc, CS, ns, n, ln, cl, q, z, T, nf, h⟩ := hJ
  obtain ⟨bb, hw⟩ := h.w
  refine c_TC_tape (by omega) (fun hn => ?_) (fun t ht e hb => ?_) (fun t ht e hs hne hle hlt => ?_) (fun t ht e hs K2 hk e1 e2 e3 => ?_) (fun t nn ht e hs hne hle en K2 hk e1 e2 e3 => ?_)
  · refine k _ K r (fun Q' k' => ?_)
    refine jw ?_
    exact c_Mo_tape (tt := 0) (by decide) (fun z => absurd z hn) (fun _ => jd' k' h.ji rfl) (fun z => absurd z hn) (fun z => absurd z hn) (fun z => absurd z hn)
  · subst e
    have hb2 : ¬ (-1 ≤ sv ∧ sv ≤ 4) ∨ (0 ≤ sv ∧ 60 < nv) := hb.imp id (fun z => ⟨Int32.not_lt.mp (fun w => z.2.1 ((jt_m1 z.1.1).mp w)), z.2.2⟩)
    refine k _ K r (fun Q' k' => ?_)
    refine jw ?_
    exact c_Mo_tape (tt := t) (by decide) (fun _ => ⟨rfl, ht⟩) (fun z => absurd (jt_i5 ht) z) (fun _ _ => jd' k' h.ji rfl) (fun _ z => absurd hb2 z) (fun _ z => absurd hb2 z)
  · subst e
    have h0 : 0 ≤ sv := Int32.not_lt.mp (fun w => hne ((jt_m1 hs.1).mp w))
    have hb2 : ¬ (¬ (-1 ≤ sv ∧ sv ≤ 4) ∨ (0 ≤ sv ∧ 60 < nv)) := fun z => z.elim (fun z => z hs) (fun z => absurd z.2 (Int32.not_lt.mpr hle))
    refine k _ K r (fun Q' k' => ?_)
    refine jw ?_
    exact c_Mo_tape (tt := t) (by decide) (fun _ => ⟨rfl, ht⟩) (fun z => absurd (jt_i5 ht) z) (fun _ z => absurd z hb2) (fun _ _ _ => jd' k' h.ji rfl) (fun _ _ z => absurd ⟨h0, hlt⟩ z)
  · subst e
    subst hs
    have hb2 : ¬ (¬ (-1 ≤ (-1 : Int32) ∧ (-1 : Int32) ≤ 4) ∨ (0 ≤ (-1 : Int32) ∧ 60 < nv)) := fun z => z.elim (fun z => z (by decide)) (fun z => absurd z.1 (by decide))
    have hb3 : ¬ (0 ≤ (-1 : Int32) ∧ nv < 0) := fun z => absurd z.1 (by decide)
    refine k _ K2 r (fun Q' k' => ?_)
    refine jw ?_
    refine c_Mo_tape (tt := t) (by decide) (fun _ => ⟨rfl, ht⟩) (fun z => absurd (jt_i5 ht) z) (fun _ z => absurd z hb2) (fun _ _ z => absurd z hb3) (fun _ _ _ => ?_)
    refine jd' k' (JX.ji (JX.tpe h ht hk (fun k hk => ?_) (fun i hi => ⟨if_neg hi, if_neg hi⟩) (fun i j hi hit hj => ?_) ?_ ?_ ?_ ⟨0, by decide, (if_pos rfl).trans (if_pos (by decide)), fun _ => rfl⟩ (fun i hi => ?_))) rfl
    · have h67 : k ≠ 67 := fun z => hk (by rw [z]; decide)
      have h66 : k ≠ 66 := fun z => hk (by rw [z]; decide)
      exact (if_neg h67).trans (if_neg h66)
    · exact if_neg (by omega)
    · exact e1.trans (if_pos rfl).symm
    · exact e2.trans ((if_pos rfl).trans (if_pos (by decide))).symm
    · show -1 ≤ (if t = t then (-1 : Int32) else _) ∧ (if t = t then (-1 : Int32) else _) ≤ 4
      rw [if_pos rfl]; decide
    · exact (e3 i hi).trans (if_pos (by omega)).symm
  · subst e
    subst en
    have h0 : ¬ sv < 0 := fun w => hne ((jt_m1 hs.1).mp w)
    have hb2 : ¬ (¬ (-1 ≤ sv ∧ sv ≤ 4) ∨ (0 ≤ sv ∧ 60 < nI nn)) := fun z => z.elim (fun z => z hs) (fun z => absurd z.2 (nI_nlt (a := 60) hle (by decide)))
    have hb3 : ¬ (0 ≤ sv ∧ nI nn < 0) := fun z => absurd z.2 (nI_pos (by omega))
    refine k _ K2 r (fun Q' k' => ?_)
    refine jw ?_
    refine c_Mo_tape (tt := t) (by decide) (fun _ => ⟨rfl, ht⟩) (fun z => absurd (jt_i5 ht) z) (fun _ z => absurd z hb2) (fun _ _ z => absurd z hb3) (fun _ _ _ => ?_)
    refine jd' k' (JX.ji (JX.tpe h ht hk (fun k hk => ?_) (fun i hi => ⟨if_neg hi, if_neg hi⟩) (fun i j hi hit hj => ?_) ?_ ?_ ?_ ⟨nn, hle, (if_pos rfl).trans (if_neg h0), fun z => absurd ((if_pos rfl : (if t = t then sv else A 66 t) = sv) ▸ z) h0⟩ (fun i hi => ?_))) rfl
    · have h67 : k ≠ 67 := fun z => hk (by rw [z]; decide)
      have h66 : k ≠ 66 := fun z => hk (by rw [z]; decide)
      exact (if_neg h67).trans (if_neg h66)
    · exact if_neg (by omega)
    · exact e1.trans (if_pos rfl).symm
    · exact e2.trans ((if_pos rfl).trans (if_neg h0)).symm
    · show -1 ≤ (if t = t then sv else _) ∧ (if t = t then sv else _) ≤ 4
      rw [if_pos rfl]; exact hs
    · exact (e3 i hi).trans (if_pos (by omega)).symm
theorem jp_item {y i : Int32} {zz : Int64} (hD : 24 ≤ D) (hJ : JI K I A L r) (k : ∀ (v : Int32) (K2 : tc_K) (r2 : tc_r), jq G m_Mo_item [.int y, .int i, .long zz] (.int v) K2 r2 I A L → Q (some (.int v)) (HT K2 (JM I A L) r2)) : px_W G D 0 0 m_TC_item 0 (px_ent 6 [.ref 0, .int y, .int i, .long zz]) [] (HT K (JM I A L) r) Q := by
  obtain ⟨mn, sc, CS, ns, n, ln, cl, q, z, T, nf, h⟩ := hJ
  obtain ⟨bb, hw⟩ := h.w
  refine c_TC_item (by omega) h.tp (fun hn => ?_) (fun t ht e h1 => ?_) (fun t l ht e el hl h1 hno => ?_) (fun t l a ht e el hl h1 ha ei => ?_)
  · refine k _ K r (fun Q' k' => ?_)
    refine jw ?_
    exact c_Mo_item (tt := 0) (by decide) (fun z => absurd z hn) (fun z => absurd z hn) (fun _ => jd' k' h.ji rfl) (fun z => absurd z hn) (fun z => absurd z hn) (fun z => absurd z hn)
  · subst e
    have h2 : A 66 t < 0 := by rw [h.neg ht, ← h.t1 ht]; exact h1
    refine k _ K r (fun Q' k' => ?_)
    refine jw ?_
    exact c_Mo_item (tt := t) (by decide) (fun _ => ⟨rfl, ht⟩) (fun _ z => by
      obtain ⟨l, g3, g4, g5⟩ := (h.2.2.1.2.2.2.1 t ht).2.2.2.1
      exact jt_rg g3 g4 z) (fun z => absurd (jt_i5 ht) z) (fun _ _ => jd' k' h.ji rfl) (fun _ z => absurd h2 z) (fun _ z => absurd h2 z)
  · subst e
    have h2 : ¬ A 66 t < 0 := fun z => h1 (by rw [h.t1 ht, ← h.neg ht]; exact z)
    have hno2 : ¬ (0 ≤ i ∧ i ≤ A 67 t - 1) := fun hr => by
      rw [← h.t2 ht, el] at hr
      obtain ⟨a, ha, ea⟩ := (jt_rl hl).mp hr
      exact hno a ha ea
    refine k _ K r (fun Q' k' => ?_)
    refine jw ?_
    exact c_Mo_item (tt := t) (by decide) (fun _ => ⟨rfl, ht⟩) (fun _ z => by
      obtain ⟨l, g3, g4, g5⟩ := (h.2.2.1.2.2.2.1 t ht).2.2.2.1
      exact jt_rg g3 g4 z) (fun z => absurd (jt_i5 ht) z) (fun _ z => absurd z h2) (fun _ _ _ => jd' k' h.ji rfl) (fun _ _ ii hii e2 hr => absurd hr hno2)
  · subst e
    subst ei
    have h2 : ¬ A 66 t < 0 := fun z => h1 (by rw [h.t1 ht, ← h.neg ht]; exact z)
    have hin : 0 ≤ nI a ∧ nI a ≤ A 67 t - 1 := by rw [← h.t2 ht, el]; exact (jt_rl hl).mpr ⟨a, ha, rfl⟩
    refine k _ _ r (fun Q' k' => ?_)
    refine jw ?_
    refine c_Mo_item (tt := t) (by decide) (fun _ => ⟨rfl, ht⟩) (fun _ z => by
      obtain ⟨l, g3, g4, g5⟩ := (h.2.2.1.2.2.2.1 t ht).2.2.2.1
      exact jt_rg g3 g4 z) (fun z => absurd (jt_i5 ht) z) (fun _ z => absurd z h2) (fun _ _ z => absurd hin z) (fun _ _ ii hii e2 hr => ?_)
    have := (nI_eq (by omega) (by omega)).mp e2
    subst this
    obtain ⟨q1, q2, q3, q4, q5⟩ := h.2.2.1.2.2.2.1 t ht
    refine jd' k' (JX.ji (JX.tpe h ht tpk.y (fun _ _ => rfl) (fun _ _ => ⟨rfl, rfl⟩) (fun i j hi hit hj => if_neg (by omega)) q1 q2 q3 q4 (fun i hi => ?_))) rfl
    show (if t = t then vp_updL (K.2.2.2.2 t) a (sp_nrw (K.1 (6 + t) 1) zz) else K.2.2.2.2 t) i = (if 60 * t + i = 60 * t + a then sp_nrw (A 66 t) zz else L 68 (60 * t + i))
    rw [if_pos rfl, q1]
    show (if i = a then _ else _) = _
    by_cases c : i = a
    · rw [if_pos c, if_pos (by omega)]
    · rw [if_neg c, if_neg (by omega)]; exact q5 i hi
theorem jp_shift {y i y2 j2 n2 : Int32} (hD : 24 ≤ D) (hJ : JI K I A L r) (k : ∀ (v : Int32) (K2 : tc_K) (r2 : tc_r), jq G m_Mo_shift [.int y, .int i, .int y2, .int j2, .int n2] (.int v) K2 r2 I A L → Q (some (.int v)) (HT K2 (JM I A L) r2)) : px_W G D 0 0 m_TC_shift 0 (px_ent 8 [.ref 0, .int y, .int i, .int y2, .int j2, .int n2]) [] (HT K (JM I A L) r) Q := by
  obtain ⟨mn, sc, CS, ns, n, ln, cl, q, z, T, nf, h⟩ := hJ
  obtain ⟨bb, hw⟩ := h.w
  refine c_TC_shift (by omega) h.tp (fun hn => ?_) (fun t t2 ht e ht2 e2 h1 => ?_) (fun t t2 ht e ht2 e2 h1 h2 h3 => ?_) (fun t t2 l l2 ht e ht2 e2 el el2 hl hl2 h1 h2 h3 hno => ?_) (fun t t2 l l2 a a2 c ht e ht2 e2 el el2 hl hl2 h1 h2 h3 ei ej en hac hac2 => ?_)
  · refine k _ K r (fun Q' k' => ?_)
    refine jw ?_
    exact c_Mo_shift (tt := 0) (oo := 0) (by decide) (fun z => absurd z hn) (fun z => absurd z hn) (fun _ => jd' k' h.ji rfl) (fun z => absurd z hn) (fun z => absurd z hn) (fun z => absurd z hn) (fun z => absurd z hn)
  · subst e
    subst e2
    have hT : (0 ≤ nI t ∧ nI t ≤ 5) ∧ (0 ≤ nI t2 ∧ nI t2 ≤ 5) := ⟨jt_i5 ht, jt_i5 ht2⟩
    have h4 : A 66 t < 0 ∨ A 66 t2 < 0 := by rw [h.neg ht, h.neg ht2, ← h.t1 ht, ← h.t1 ht2]; exact h1
    refine k _ K r (fun Q' k' => ?_)
    refine jw ?_
    exact c_Mo_shift (tt := t) (oo := t2) (by decide) (fun _ => ⟨rfl, ht, rfl, ht2⟩) (fun _ z => by
      obtain ⟨l, hl, el, -⟩ := h.tp t ht
      obtain ⟨l2, hl2, el2, -⟩ := h.tp t2 ht2
      have hP : ¬ (n2 < 0 ∨ i < 0 ∨ j2 < 0 ∨ A 67 t - n2 < i ∨ A 67 t2 - n2 < j2) → ∃ a a2 c, i = nI a ∧ j2 = nI a2 ∧ n2 = nI c ∧ a + c ≤ l ∧ a2 + c ≤ l2 := fun z => by
        have z1 : ¬ n2 < 0 := fun w => z (Or.inl w)
        have z2 : ¬ i < 0 := fun w => z (Or.inr (Or.inl w))
        have z3 : ¬ j2 < 0 := fun w => z (Or.inr (Or.inr (Or.inl w)))
        obtain ⟨c, hc, rfl⟩ := nI_of z1
        obtain ⟨a, ha, rfl⟩ := nI_of z2
        obtain ⟨a2, ha2, rfl⟩ := nI_of z3
        have z4 : ¬ nI l - nI c < nI a := fun w => z (Or.inr (Or.inr (Or.inr (Or.inl (by rw [← h.t2 ht, el]; exact w)))))
        have z5 : ¬ nI l2 - nI c < nI a2 := fun w => z (Or.inr (Or.inr (Or.inr (Or.inr (by rw [← h.t2 ht2, el2]; exact w)))))
        rw [jt_sub hl hc ha] at z4
        rw [jt_sub hl2 hc ha2] at z5
        exact ⟨a, a2, c, rfl, rfl, rfl, Decidable.of_not_not z4, Decidable.of_not_not z5⟩
      have hP2 : ¬ (n2 < 0 ∨ i < 0 ∨ j2 < 0 ∨ A 67 t - n2 < i ∨ A 67 t2 - n2 < j2) → ∃ ii jj nn, i = nI ii ∧ j2 = nI jj ∧ n2 = nI nn ∧ ii + nn ≤ 60 ∧ jj + nn ≤ 60 := fun z => by
        obtain ⟨a, a2, c, g1, g2, g3, g4, g5⟩ := hP z
        exact ⟨a, a2, c, g1, g2, g3, by omega, by omega⟩
      
      exact hP2 z) (fun z => absurd hT z) (fun _ _ => jd' k' h.ji rfl) (fun _ z => absurd h4 z) (fun _ z => absurd h4 z) (fun _ z => absurd h4 z)
  · subst e
    subst e2
    have hT : (0 ≤ nI t ∧ nI t ≤ 5) ∧ (0 ≤ nI t2 ∧ nI t2 ≤ 5) := ⟨jt_i5 ht, jt_i5 ht2⟩
    have h4 : ¬ (A 66 t < 0 ∨ A 66 t2 < 0) := by rw [h.neg ht, h.neg ht2, ← h.t1 ht, ← h.t1 ht2]; exact fun z => z.elim h1 h2
    rw [h.t1 ht, h.t1 ht2] at h3
    refine k _ K r (fun Q' k' => ?_)
    refine jw ?_
    exact c_Mo_shift (tt := t) (oo := t2) (by decide) (fun _ => ⟨rfl, ht, rfl, ht2⟩) (fun _ z => by
      obtain ⟨l, hl, el, -⟩ := h.tp t ht
      obtain ⟨l2, hl2, el2, -⟩ := h.tp t2 ht2
      have hP : ¬ (n2 < 0 ∨ i < 0 ∨ j2 < 0 ∨ A 67 t - n2 < i ∨ A 67 t2 - n2 < j2) → ∃ a a2 c, i = nI a ∧ j2 = nI a2 ∧ n2 = nI c ∧ a + c ≤ l ∧ a2 + c ≤ l2 := fun z => by
        have z1 : ¬ n2 < 0 := fun w => z (Or.inl w)
        have z2 : ¬ i < 0 := fun w => z (Or.inr (Or.inl w))
        have z3 : ¬ j2 < 0 := fun w => z (Or.inr (Or.inr (Or.inl w)))
        obtain ⟨c, hc, rfl⟩ := nI_of z1
        obtain ⟨a, ha, rfl⟩ := nI_of z2
        obtain ⟨a2, ha2, rfl⟩ := nI_of z3
        have z4 : ¬ nI l - nI c < nI a := fun w => z (Or.inr (Or.inr (Or.inr (Or.inl (by rw [← h.t2 ht, el]; exact w)))))
        have z5 : ¬ nI l2 - nI c < nI a2 := fun w => z (Or.inr (Or.inr (Or.inr (Or.inr (by rw [← h.t2 ht2, el2]; exact w)))))
        rw [jt_sub hl hc ha] at z4
        rw [jt_sub hl2 hc ha2] at z5
        exact ⟨a, a2, c, rfl, rfl, rfl, Decidable.of_not_not z4, Decidable.of_not_not z5⟩
      have hP2 : ¬ (n2 < 0 ∨ i < 0 ∨ j2 < 0 ∨ A 67 t - n2 < i ∨ A 67 t2 - n2 < j2) → ∃ ii jj nn, i = nI ii ∧ j2 = nI jj ∧ n2 = nI nn ∧ ii + nn ≤ 60 ∧ jj + nn ≤ 60 := fun z => by
        obtain ⟨a, a2, c, g1, g2, g3, g4, g5⟩ := hP z
        exact ⟨a, a2, c, g1, g2, g3, by omega, by omega⟩
      
      exact hP2 z) (fun z => absurd hT z) (fun _ z => absurd z h4) (fun _ _ _ => jd' k' h.ji rfl) (fun _ _ z => absurd z h3) (fun _ _ z => absurd z h3)
  · subst e
    subst e2
    have hT : (0 ≤ nI t ∧ nI t ≤ 5) ∧ (0 ≤ nI t2 ∧ nI t2 ≤ 5) := ⟨jt_i5 ht, jt_i5 ht2⟩
    have h4 : ¬ (A 66 t < 0 ∨ A 66 t2 < 0) := by rw [h.neg ht, h.neg ht2, ← h.t1 ht, ← h.t1 ht2]; exact fun z => z.elim h1 h2
    rw [h.t1 ht, h.t1 ht2] at h3
    have hP : ¬ (n2 < 0 ∨ i < 0 ∨ j2 < 0 ∨ A 67 t - n2 < i ∨ A 67 t2 - n2 < j2) → ∃ a a2 c, i = nI a ∧ j2 = nI a2 ∧ n2 = nI c ∧ a + c ≤ l ∧ a2 + c ≤ l2 := fun z => by
      have z1 : ¬ n2 < 0 := fun w => z (Or.inl w)
      have z2 : ¬ i < 0 := fun w => z (Or.inr (Or.inl w))
      have z3 : ¬ j2 < 0 := fun w => z (Or.inr (Or.inr (Or.inl w)))
      obtain ⟨c, hc, rfl⟩ := nI_of z1
      obtain ⟨a, ha, rfl⟩ := nI_of z2
      obtain ⟨a2, ha2, rfl⟩ := nI_of z3
      have z4 : ¬ nI l - nI c < nI a := fun w => z (Or.inr (Or.inr (Or.inr (Or.inl (by rw [← h.t2 ht, el]; exact w)))))
      have z5 : ¬ nI l2 - nI c < nI a2 := fun w => z (Or.inr (Or.inr (Or.inr (Or.inr (by rw [← h.t2 ht2, el2]; exact w)))))
      rw [jt_sub hl hc ha] at z4
      rw [jt_sub hl2 hc ha2] at z5
      exact ⟨a, a2, c, rfl, rfl, rfl, Decidable.of_not_not z4, Decidable.of_not_not z5⟩
    have hP2 : ¬ (n2 < 0 ∨ i < 0 ∨ j2 < 0 ∨ A 67 t - n2 < i ∨ A 67 t2 - n2 < j2) → ∃ ii jj nn, i = nI ii ∧ j2 = nI jj ∧ n2 = nI nn ∧ ii + nn ≤ 60 ∧ jj + nn ≤ 60 := fun z => by
      obtain ⟨a, a2, c, g1, g2, g3, g4, g5⟩ := hP z
      exact ⟨a, a2, c, g1, g2, g3, by omega, by omega⟩
    have h5 : (n2 < 0 ∨ i < 0 ∨ j2 < 0 ∨ A 67 t - n2 < i ∨ A 67 t2 - n2 < j2) := Decidable.of_not_not (fun z => by
      obtain ⟨a, a2, c, g1, g2, g3, g4, g5⟩ := hP z
      exact hno a a2 c g1 g2 g3 g4 g5)
    refine k _ K r (fun Q' k' => ?_)
    refine jw ?_
    exact c_Mo_shift (tt := t) (oo := t2) (by decide) (fun _ => ⟨rfl, ht, rfl, ht2⟩) (fun _ z => hP2 z) (fun z => absurd hT z) (fun _ z => absurd z h4) (fun _ _ z => absurd h3 z) (fun _ _ _ _ => jd' k' h.ji rfl) (fun _ _ _ z => absurd h5 z)
  · subst e
    subst e2
    subst ei
    subst ej
    subst en
    have hT : (0 ≤ nI t ∧ nI t ≤ 5) ∧ (0 ≤ nI t2 ∧ nI t2 ≤ 5) := ⟨jt_i5 ht, jt_i5 ht2⟩
    have h4 : ¬ (A 66 t < 0 ∨ A 66 t2 < 0) := by rw [h.neg ht, h.neg ht2, ← h.t1 ht, ← h.t1 ht2]; exact fun z => z.elim h1 h2
    rw [h.t1 ht, h.t1 ht2] at h3
    have h5 : ¬ (nI c < 0 ∨ nI a < 0 ∨ nI a2 < 0 ∨ A 67 t - nI c < nI a ∨ A 67 t2 - nI c < nI a2) := by
      rw [← h.t2 ht, ← h.t2 ht2, el, el2, jt_sub hl (by omega) (by omega), jt_sub hl2 (by omega) (by omega)]
      rintro (z | z | z | z | z)
      · exact nI_pos (by omega) z
      · exact nI_pos (by omega) z
      · exact nI_pos (by omega) z
      · exact z hac
      · exact z hac2
    refine k _ _ r (fun Q' k' => ?_)
    refine jw ?_
    refine c_Mo_shift (tt := t) (oo := t2) (by decide) (fun _ => ⟨rfl, ht, rfl, ht2⟩) (fun _ _ => ⟨a, a2, c, rfl, rfl, rfl, by omega, by omega⟩) (fun z => absurd hT z) (fun _ z => absurd z h4) (fun _ _ z => absurd h3 z) (fun _ _ _ z => absurd z h5) (fun _ _ _ _ ii jj nn e1 e2 e3 hij hjj g => ?_)
    have q1 := (nI_eq (by omega) (by omega)).mp e1
    have q2 := (nI_eq (by omega) (by omega)).mp e2
    have q3 := (nI_eq (by omega) (by omega)).mp e3
    subst q1
    subst q2
    subst q3
    obtain ⟨q1, q2, q3, q4, q5⟩ := h.2.2.1.2.2.2.1 t2 ht2
    refine jd' k' (JX.ji (JX.tpe h ht2 tpk.y (fun _ _ => rfl) (fun _ _ => ⟨rfl, rfl⟩) (fun i j hi hit hj => if_neg (by omega)) q1 q2 q3 q4 (fun i hi => ?_))) rfl
    show (if t2 = t2 then va_cpy (K.2.2.2.2 t) (K.2.2.2.2 t2) a a2 c else K.2.2.2.2 t2) i = (if 60 * t2 + a2 ≤ 60 * t2 + i ∧ 60 * t2 + i < 60 * t2 + a2 + c then L 68 (60 * t + a + (60 * t2 + i - (60 * t2 + a2))) else L 68 (60 * t2 + i))
    rw [if_pos rfl]
    show (if a2 ≤ i ∧ i < a2 + c then K.2.2.2.2 t (a + (i - a2)) else K.2.2.2.2 t2 i) = _
    by_cases w : a2 ≤ i ∧ i < a2 + c
    · rw [if_pos w, if_pos (by omega), h.ty ht _ (by omega)]
      congr 1
      omega
    · rw [if_neg w, if_neg (by omega)]; exact q5 i hi
theorem jp_act {m y x : Int32} (hD : 24 ≤ D) (hJ : JI K I A L r) (k : ∀ (v : Int32) (K2 : tc_K) (r2 : tc_r), jq G m_Mo_act [.int m, .int y, .int x] (.int v) K2 r2 I A L → Q (some (.int v)) (HT K2 (JM I A L) r2)) : px_W G D 0 0 m_TC_act 0 (px_ent 4 [.ref 0, .int m, .int y, .int x]) [] (HT K (JM I A L) r) Q := by
  obtain ⟨mn, sc, CS, ns, n, ln, cl, q, z, T, nf, h⟩ := hJ
  obtain ⟨bb, hw⟩ := h.w
  refine c_TC_act (B := 9999) (f := A 65) (by omega) h.1 h.st (by decide) h.k7 h.hal h.2.2.1.2.2.1.2 (fun hn K2 hk hrn => ?_) (fun mm hm e kq v0 ekv ey K2 hk hrn => ?_) (fun mm hm e kq v0 ekv ey K2 hk hrn => ?_) (fun mm hm e kq v0 ekv ey K2 hk hrn => ?_)
  · have hn2 : ¬ ((0 ≤ m ∧ m ≤ I 0 - 1) ∧ (0 ≤ y ∧ y ≤ 2)) := fun z => hn.elim (fun w => w (h.man.mp z.1)) (fun w => by
      obtain ⟨a, ha, e⟩ := jt_n (M := 2) (n := 2) (by decide) z.2
      subst e
      rcases (show a = 0 ∨ a = 1 ∨ a = 2 by omega) with rfl | rfl | rfl
      · exact w.1 rfl
      · exact w.2.1 rfl
      · exact w.2.2 rfl)
    by_cases hr : 0 ≤ m ∧ m ≤ I 0 - 1
    · obtain ⟨mm, hm, e⟩ := h.mm hr
      refine k _ K2 r (fun Q' k' => ?_)
      refine jw ?_
      exact c_Mo_act (i := mm) (by decide) (fun _ => ⟨e, by have := h.n6; omega⟩) (fun _ => jd' k' (JX.ji (h.act hk hrn (fun k hk => if_neg hk) (fun k hk => rfl) (if_pos rfl) rfl)) rfl) (fun z => absurd z hn2) (fun z => absurd z hn2) (fun z => absurd z hn2)
    · refine k _ K2 r (fun Q' k' => ?_)
      refine jw ?_
      exact c_Mo_act (i := 0) (by decide) (fun z => absurd z hr) (fun _ => jd' k' (JX.ji (h.act hk hrn (fun k hk => if_neg hk) (fun k hk => rfl) (if_pos rfl) rfl)) rfl) (fun z => absurd z hn2) (fun z => absurd z hn2) (fun z => absurd z hn2)
  · subst e
    subst ey
    rw [← ekv.1, ← ekv.2] at hrn ⊢
    refine k _ K2 r (fun Q' k' => ?_)
    refine jw ?_
    exact c_Mo_act (i := mm) (by decide) (fun _ => ⟨rfl, by have := h.n6; omega⟩) (fun z => absurd ⟨h.im hm, by decide⟩ z) (fun _ _ => jd' k' (JX.ji (h.act hk hrn (fun k hk => if_neg hk) (fun k hk => if_neg hk) (if_pos rfl) (if_pos rfl))) rfl) (fun _ z => absurd z (by decide)) (fun _ z z2 => absurd rfl z)
  · subst e
    subst ey
    rw [← ekv.1, ← ekv.2] at hrn ⊢
    refine k _ K2 r (fun Q' k' => ?_)
    refine jw ?_
    exact c_Mo_act (i := mm) (by decide) (fun _ => ⟨rfl, by have := h.n6; omega⟩) (fun z => absurd ⟨h.im hm, by decide⟩ z) (fun _ z => absurd z (by decide)) (fun _ _ => jd' k' (JX.ji (h.act hk hrn (fun k hk => if_neg hk) (fun k hk => if_neg hk) (if_pos rfl) (if_pos rfl))) rfl) (fun _ z z2 => absurd rfl z2)
  · subst e
    subst ey
    rw [← ekv.1, ← ekv.2] at hrn ⊢
    refine k _ K2 r (fun Q' k' => ?_)
    refine jw ?_
    exact c_Mo_act (i := mm) (by decide) (fun _ => ⟨rfl, by have := h.n6; omega⟩) (fun z => absurd ⟨h.im hm, by decide⟩ z) (fun _ z => absurd z (by decide)) (fun _ z => absurd z (by decide)) (fun _ _ _ => jd' k' (JX.ji (h.act hk hrn (fun k hk => if_neg hk) (fun k hk => if_neg hk) (if_pos rfl) (if_pos rfl))) rfl)
theorem jp_place {m x : Int32} (hD : 24 ≤ D) (hJ : JI K I A L r) (k : ∀ (v : Int32) (K2 : tc_K) (r2 : tc_r), jq G m_Mo_place [.int m, .int x] (.int v) K2 r2 I A L → Q (some (.int v)) (HT K2 (JM I A L) r2)) : px_W G D 0 0 m_TC_place 0 (px_ent 4 [.ref 0, .int m, .int x]) [] (HT K (JM I A L) r) Q := by
  obtain ⟨mn, sc, CS, ns, n, ln, cl, q, z, T, nf, h⟩ := hJ
  obtain ⟨bb, hw⟩ := h.w
  refine c_TC_place (B := 9999) (by omega) h.1 h.st (by decide) h.k7 h.hpl (fun hn => ?_) (fun mm kx a hm e hkx ex ha ea hmin j2 b2 ej eb ebo => ?_)
  · have hn2 : ¬ ((0 ≤ m ∧ m ≤ I 0 - 1) ∧ (0 ≤ x ∧ x ≤ I 0 - 1)) := fun z => hn ⟨h.man.mp z.1, h.man.mp z.2⟩
    refine k _ K r (fun Q' k' => ?_)
    refine jw ?_
    exact c_Mo_place (mm := 0) (a := 0) (k0 := 0) (by decide) (fun z => absurd z hn2) (fun _ => jd' k' h.ji rfl) (fun z => absurd z hn2)
  · subst e
    subst ex
    have hn6 := h.n6
    obtain ⟨el, ea2, hmin2⟩ := h.pl hm ha ea
    refine k _ _ r (fun Q' k' => ?_)
    refine jw ?_
    refine c_Mo_place (mm := mm) (a := a) (k0 := kx) (by decide) (fun _ => ⟨rfl, rfl, by omega, by omega, ea2, hmin2⟩) (fun z => absurd ⟨h.im hm, h.im hkx⟩ z) (fun _ => ?_)
    obtain ⟨h1, ⟨h2, h2b, h2c⟩, h3, h4, h5⟩ := h.2.1
    refine jd' k' (JX.ji (h.now (mn2 := mn) (cl2 := cl) (n2 := n) (ln2 := fun p => ln (jp_sg a kx p)) (q2 := q) (z2 := z) (h.1.mz rfl) (fun _ _ => rfl) ?_ tk.now h.2.2.1.2.2.2.2.1 (fun _ _ => rfl) (jA_up (by decide)))) rfl
    have e8 : n - 1 + 1 = n := by omega
    have hb : ∀ q, q ≠ 4 → (ks K 0 j2 b2 (K.2.2.1 0) (K.2.2.2.1 0)).2.1 0 q = K.2.1 0 q := ebo
    have hb4 : (ks K 0 j2 b2 (K.2.2.1 0) (K.2.2.2.1 0)).2.1 0 4 = _ := eb
    have hj : (ks K 0 j2 b2 (K.2.2.1 0) (K.2.2.2.1 0)).1 0 = _ := ej
    rw [e8] at hj
    refine ⟨?_, ⟨fun p hp => ⟨(h2 _ (sg_lt ha hkx hp)).1, ?_, ?_⟩, fun mq hmq => ?_, fun p p2 hp hp2 e => ?_⟩, h3, ?_, h5.1, ?_, ?_⟩
    · rw [hj]; exact ⟨h1.1, h1.2.1, h1.2.2.1, rfl, h1.2.2.2.2⟩
    · show sp_plc (A 10) a kx (nI mm) p = _
      rw [plc_m ea2 ha hkx hp]; exact (h2 _ (sg_lt ha hkx hp)).2.1
    · rw [hb4, plc_c ea ha hkx hp]; exact (h2 _ (sg_lt ha hkx hp)).2.2
    · obtain ⟨p0, hp0, e0⟩ := h2b mq hmq
      obtain ⟨p, e1, e2⟩ := sg_sur (a := a) (k := kx) p0
      exact ⟨p, e2 n ha hkx hp0, by show ln (jp_sg a kx p) = mq; rw [e1]; exact e0⟩
    · exact sg_inj (n := n) (h2c _ _ (sg_lt ha hkx hp) (sg_lt ha hkx hp2) e)
    · rw [hb 1 (by decide), hb 2 (by decide), hb 3 (by decide)]; exact h4
    · rw [hj, hb 5 (by decide)]; exact h5.2.1
    · rw [hj, hb 6 (by decide)]; exact h5.2.2
end JPH
