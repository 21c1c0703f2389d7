/-- what the reference's call does, when it answers v as the class did -/
def jq (G : px_G) (Mm : px_M) (am : List Value) (v : Value) (K2 : tc_K) (r2 : tc_r) (I : Nat → Int32) (A : Nat → Nat → Int32) (L : Nat → Nat → Int64) : Prop := ∀ Q' : Option Value → px_H → Prop, (∀ I' A' L', JI K2 I' A' L' r2 → Q' (some v) (HT K2 (JM I' A' L') r2)) → px_W G 20 0 0 Mm 0 (px_ent Mm.2.2.1 (.ref 58 :: am)) [] (HT K2 (JM I A L) r2) Q'
theorem jf_ch1 {g g2 : Nat → Nat → Int32} {n x : Nat} (h : ∀ y, y < n → g x y = g2 x y) : ∀ (q y : Nat) (z : Int32 × Int32), y + q ≤ n → sp_ch1 g x q y z = sp_ch1 g2 x q y z := by
  intro q
  induction q with
  | zero => intro y z _; rfl
  | succ q ih =>
    intro y z hy
    rw [sp_ch1, sp_ch1, h y (by omega), ih (y + 1) _ (by omega), ih (y + 1) _ (by omega)]
theorem jf_ch {g g2 : Nat → Nat → Int32} {n : Nat} (h : ∀ x y, x < n → y < n → g x y = g2 x y) : ∀ (q x : Nat) (z : Int32 × Int32), x + q ≤ n → sp_ch g n q x z = sp_ch g2 n q x z := by
  intro q
  induction q with
  | zero => intro x z _; rfl
  | succ q ih =>
    intro x z hx
    rw [sp_ch, sp_ch, jf_ch1 (fun y hy => h x y (by omega) hy) (n - (x + 1)) (x + 1) z (by omega)]
    exact ih (x + 1) _ (by omega)
theorem jf_sw {ln : Nat → Nat} {n x y p : Nat} (h : ∀ p, p < n → ln p < 6) (hx : x < n) (hy : y < n) (hp : p < n) : sp_sw ln x y p < 6 := by
  unfold sp_sw
  split
  · exact h x hx
  · split
    · exact h y hy
    · exact h p hp
section JPA
variable {mn : tc_mn} {sc : tc_sc} {CS : Nat → List sp_Cl} {ns n : Nat} {ln : Nat → Nat} {cl : List sp_Cl} {q z : Nat} {T : Nat → Nat} {nf : Nat} {K : tc_K} {I : Nat → Int32} {A : Nat → Nat → Int32} {L : Nat → Nat → Int64} {r : tc_r}
theorem JX.ji (h : JX mn sc CS ns n ln cl q z T nf K I A L r) : JI K I A L r := ⟨_, _, _, _, _, _, _, _, _, _, _, h⟩
theorem jw {G : px_G} {D N : Nat} {M : px_M} {am : List Value} {Q : Option Value → px_H → Prop} (h : px_W G D 0 0 M 0 (px_ent N (.ref (HC K r.1).length :: am)) [] (HM (HC K r.1) I A L r.2) Q) : px_W G D 0 0 M 0 (px_ent N (.ref 58 :: am)) [] (HT K (JM I A L) r) Q := h
theorem jd {Q' : Option Value → px_H → Prop} {v v' : Value} (k' : ∀ I' A' L', JI K I' A' L' r → Q' (some v) (HT K (JM I' A' L') r)) (h : JI K I A L r) (e : v' = v) : Q' (some v') (HM (HC K r.1) I A L r.2) := by
  subst e
  exact k' I A L h
theorem jd' {Q' : Option Value → px_H → Prop} {v v' : Int32} (k' : ∀ I' A' L', JI K I' A' L' r → Q' (some (.int v)) (HT K (JM I' A' L') r)) (h : JI K I A L r) (e : v' = v) : Q' (some (.int v')) (HM (HC K r.1) I A L r.2) := jd k' h (congrArg _ e)
theorem jdl {Q' : Option Value → px_H → Prop} {v v' : Int64} (k' : ∀ I' A' L', JI K I' A' L' r → Q' (some (.long v)) (HT K (JM I' A' L') r)) (h : JI K I A L r) (e : v' = v) : Q' (some (.long v')) (HM (HC K r.1) I A L r.2) := jd k' h (congrArg _ e)
theorem JX.many (h : JX mn sc CS ns n ln cl q z T nf K I A L r) {ln2 : Nat → Nat} {n2 : Nat} (hl : ∀ p, p < n2 → ln2 p < 6) (t : Int32) (m : Nat) (b r : Int32) (j : Nat) : sp_many (A 5, A 6, K.2.1 0 3, ln2, n2, cl) t (K.2.1 0 1) (K.2.1 0 2) m b r j = sp_many (A 5, A 6, A 9, ln2, n2, cl) t (A 7) (A 8) m b r j := jf_many (h.se hl) h.h1 h.h2
theorem JX.many0 (h : JX mn sc CS ns n ln cl q z T nf K I A L r) (t : Int32) (m : Nat) (b r : Int32) (j : Nat) : sp_many (A 5, A 6, K.2.1 0 3, ln, n, cl) t (K.2.1 0 1) (K.2.1 0 2) m b r j = sp_many (A 5, A 6, A 9, ln, n, cl) t (A 7) (A 8) m b r j := h.many h.ln6 t m b r j
theorem JX.ups0 (h : JX mn sc CS ns n ln cl q z T nf K I A L r) (t : Int32) (m : Nat) (b r : Int32) (j : Nat) : sp_ups (A 5, A 6, K.2.1 0 3, ln, n, cl) t (K.2.1 0 1) (K.2.1 0 2) m b r j = sp_ups (A 5, A 6, A 9, ln, n, cl) t (A 7) (A 8) m b r j := jf_ups (h.se h.ln6) h.h1 h.h2
theorem JX.lat0 (h : JX mn sc CS ns n ln cl q z T nf K I A L r) (t : Int32) (m : Nat) (b r : Int32) (j : Nat) : sp_lat (A 5, A 6, K.2.1 0 3, ln, n, cl) t (K.2.1 0 1) (K.2.1 0 2) m b r j = sp_lat (A 5, A 6, A 9, ln, n, cl) t (A 7) (A 8) m b r j := jf_lat (h.se h.ln6) h.h1 h.h2
theorem JX.drp0 (h : JX mn sc CS ns n ln cl q z T nf K I A L r) (t : Int32) (m : Nat) (b r : Int32) (j : Nat) : sp_drp (A 5, A 6, K.2.1 0 3, ln, n, cl) t (K.2.1 0 1) (K.2.1 0 2) m b r j = sp_drp (A 5, A 6, A 9, ln, n, cl) t (A 7) (A 8) m b r j := jf_drp (h.se h.ln6) h.h1 h.h2
theorem JX.many4 (h : JX mn sc CS ns n ln cl q z T nf K I A L r) (t : Int32) (m : Nat) (b r : Int32) (j i : Nat) : sp_many (A 5, A 6, K.2.1 0 3, ln, n, cl) t (up40 (K.2.1 0 1) i) (K.2.1 0 2) m b r j = sp_many (A 5, A 6, A 9, ln, n, cl) t (up40 (A 7) i) (A 8) m b r j := jf_many (h.se h.ln6) (h.h40 i) h.h2
theorem JX.ups4 (h : JX mn sc CS ns n ln cl q z T nf K I A L r) (t : Int32) (m : Nat) (b r : Int32) (j i : Nat) : sp_ups (A 5, A 6, K.2.1 0 3, ln, n, cl) t (up40 (K.2.1 0 1) i) (K.2.1 0 2) m b r j = sp_ups (A 5, A 6, A 9, ln, n, cl) t (up40 (A 7) i) (A 8) m b r j := jf_ups (h.se h.ln6) (h.h40 i) h.h2
end JPA
section JPB
variable {G : px_G} {D : Nat} {Q : Option Value → px_H → Prop} {K : tc_K} {I : Nat → Int32} {A : Nat → Nat → Int32} {L : Nat → Nat → Int64} {r : tc_r}

theorem jp_safe {x : Int32} (hD : 24 ≤ D) (hJ : JI K I A L r) (k : ∀ (v : Int32) (K2 : tc_K) (r2 : tc_r), jq G m_Mo_safe [.int x] (.int v) K2 r2 I A L → Q (some (.int v)) (HT K2 (JM I A L) r2)) : px_W G D 0 0 m_TC_safe 0 (px_ent 3 [.ref 0, .int x]) [] (HT K (JM I A L) r) Q := by
  obtain ⟨mn, sc, CS, ns, n, ln, cl, q, z, T, nf, h⟩ := hJ
  obtain ⟨bb, hw⟩ := h.w
  refine c_TC_safe (B := 9999) (by omega) h.1 h.st (by decide) (fun hb => ?_) (fun hx nn hnn e K2 r2 hk hR => ?_)
  · refine k _ K r (fun Q' k' => ?_)
    refine jw ?_
    exact c_Mo_safe (by decide) hw h.hb.h h.e32 (fun _ => jd k' h.ji rfl) (fun z => absurd z hb)
  · subst e
    refine k _ K2 r2 (fun Q' k' => ?_)
    have h2 := h.ask hk hR
    refine jw ?_
    refine c_Mo_safe (by decide) hw h.hb.h h.e32 (fun z => absurd hx z) (fun _ nn2 hn2 e2 I' A' hm => jd' k' (h2.ms hm (by decide) (by decide)).ji ?_)
    have en : nn2 = nn := (nI_eq (by omega) (by omega)).mp e2.symm
    subst en
    simp only [h.many0, h.k9]
theorem jp_best {x y : Int32} (hD : 24 ≤ D) (hJ : JI K I A L r) (k : ∀ (v : Int32) (K2 : tc_K) (r2 : tc_r), jq G m_Mo_best [.int x, .int y] (.int v) K2 r2 I A L → Q (some (.int v)) (HT K2 (JM I A L) r2)) : px_W G D 0 0 m_TC_best 0 (px_ent 7 [.ref 0, .int x, .int y]) [] (HT K (JM I A L) r) Q := by
  obtain ⟨mn, sc, CS, ns, n, ln, cl, q, z, T, nf, h⟩ := hJ
  obtain ⟨bb, hw⟩ := h.w
  refine c_TC_best (B := 9999) (by omega) h.1 h.st (by decide) (fun hn => ?_) (fun hy hb => ?_) (fun hy hx nn hnn e K2 r2 hk hR => ?_)
  · refine k _ K r (fun Q' k' => ?_)
    refine jw ?_
    exact c_Mo_best (by decide) hw h.hb.h h.e32 (fun _ => jd k' h.ji rfl) (fun z => absurd z hn) (fun z => absurd z hn)
  · refine k _ K r (fun Q' k' => ?_)
    refine jw ?_
    exact c_Mo_best (by decide) hw h.hb.h h.e32 (fun z => absurd hy z) (fun _ _ => jd k' h.ji rfl) (fun _ z => absurd z hb)
  · subst e
    refine k _ K2 r2 (fun Q' k' => ?_)
    have h2 := h.ask hk hR
    refine jw ?_
    refine c_Mo_best (by decide) hw h.hb.h h.e32 (fun z => absurd hy z) (fun _ z => absurd hx z) (fun _ _ nn2 hn2 e2 I' A' hm => jd' k' (h2.ms hm (by decide) (by decide)).ji ?_)
    have en : nn2 = nn := (nI_eq (by omega) (by omega)).mp e2.symm
    subst en
    obtain ⟨a, ha, ea⟩ := sp_many_n (A 5, A 6, A 9, ln, n, cl) (I 2) (A 7) (A 8) nn2 (nI 1) 0 0
    simp only [h.many0, h.lat0, h.k9]
    rw [jf_best (a := a) (by omega) ea]
theorem jp_rested {x bt rr : Int32} (hD : 24 ≤ D) (hJ : JI K I A L r) (k : ∀ (v : Int32) (K2 : tc_K) (r2 : tc_r), jq G m_Mo_rested [.int x, .int bt, .int rr] (.int v) K2 r2 I A L → Q (some (.int v)) (HT K2 (JM I A L) r2)) : px_W G D 0 0 m_TC_rested 0 (px_ent 5 [.ref 0, .int x, .int bt, .int rr]) [] (HT K (JM I A L) r) Q := by
  obtain ⟨mn, sc, CS, ns, n, ln, cl, q, z, T, nf, h⟩ := hJ
  obtain ⟨bb, hw⟩ := h.w
  refine c_TC_rested (B := 9999) (by omega) h.1 h.st (by decide) (fun hb => ?_) (fun hx nn hnn e K2 r2 hk hR => ?_)
  · refine k _ K r (fun Q' k' => ?_)
    refine jw ?_
    exact c_Mo_rested (by decide) hw h.hb.h h.e32 (fun _ => jd k' h.ji rfl) (fun z => absurd z hb)
  · subst e
    refine k _ K2 r2 (fun Q' k' => ?_)
    have h2 := h.ask hk hR
    refine jw ?_
    refine c_Mo_rested (by decide) hw h.hb.h h.e32 (fun z => absurd hx z) (fun _ nn2 hn2 e2 I' A' hm => jd' k' (h2.ms hm (by decide) (by decide)).ji ?_)
    have en : nn2 = nn := (nI_eq (by omega) (by omega)).mp e2.symm
    subst en
    simp only [h.many0, h.k9]
theorem jp_pulley {x bt : Int32} (hD : 24 ≤ D) (hJ : JI K I A L r) (k : ∀ (v : Int32) (K2 : tc_K) (r2 : tc_r), jq G m_Mo_pulley [.int x, .int bt] (.int v) K2 r2 I A L → Q (some (.int v)) (HT K2 (JM I A L) r2)) : px_W G D 0 0 m_TC_pulley 0 (px_ent 3 [.ref 0, .int x, .int bt]) [] (HT K (JM I A L) r) Q := by
  obtain ⟨mn, sc, CS, ns, n, ln, cl, q, z, T, nf, h⟩ := hJ
  obtain ⟨bb, hw⟩ := h.w
  refine c_TC_pulley (B := 9999) (by omega) h.1 h.st (by decide) (fun hb => ?_) (fun hx nn hnn e K2 r2 hk hR => ?_)
  · refine k _ K r (fun Q' k' => ?_)
    refine jw ?_
    exact c_Mo_pulley (by decide) hw h.hb.h h.e32 (fun _ => jd k' h.ji rfl) (fun z => absurd z hb)
  · subst e
    refine k _ K2 r2 (fun Q' k' => ?_)
    have h2 := h.ask hk hR
    refine jw ?_
    refine c_Mo_pulley (by decide) hw h.hb.h h.e32 (fun z => absurd hx z) (fun _ nn2 hn2 e2 I' A' hm => jd' k' (h2.ms hm (by decide) (by decide)).ji ?_)
    have en : nn2 = nn := (nI_eq (by omega) (by omega)).mp e2.symm
    subst en
    simp only [h.many0, h.lat0, h.k9, h.k7, h.i0]
theorem jp_from {bt : Int32} (hD : 24 ≤ D) (hJ : JI K I A L r) (k : ∀ (v : Int32) (K2 : tc_K) (r2 : tc_r), jq G m_Mo_from [.int bt] (.int v) K2 r2 I A L → Q (some (.int v)) (HT K2 (JM I A L) r2)) : px_W G D 0 0 m_TC_from 0 (px_ent 3 [.ref 0, .int bt]) [] (HT K (JM I A L) r) Q := by
  obtain ⟨mn, sc, CS, ns, n, ln, cl, q, z, T, nf, h⟩ := hJ
  obtain ⟨bb, hw⟩ := h.w
  refine c_TC_from (B := 9999) (by omega) h.1 h.st (by decide) (fun hb => ?_) (fun hx K2 r2 hk hR => ?_)
  · refine k _ K r (fun Q' k' => ?_)
    refine jw ?_
    exact c_Mo_from (by decide) hw h.hb.h h.e32 (fun _ => jd k' h.ji rfl) (fun z => absurd z hb)
  · refine k _ K2 r2 (fun Q' k' => ?_)
    have h2 := h.ask hk hR
    refine jw ?_
    refine c_Mo_from (by decide) hw h.hb.h h.e32 (fun z => absurd hx z) (fun _ I' A' hm => jd' k' (h2.ms hm (by decide) (by decide)).ji ?_)
    simp only [h.many0, h.lat0, h.k9, h.k7, h.i0]
theorem jp_mean {x y : Int32} (hD : 24 ≤ D) (hJ : JI K I A L r) (k : ∀ (v : Int64) (K2 : tc_K) (r2 : tc_r), jq G m_Mo_mean [.int x, .int y] (.long v) K2 r2 I A L → Q (some (.long v)) (HT K2 (JM I A L) r2)) : px_W G D 0 0 m_TC_mean 0 (px_ent 5 [.ref 0, .int x, .int y]) [] (HT K (JM I A L) r) Q := by
  obtain ⟨mn, sc, CS, ns, n, ln, cl, q, z, T, nf, h⟩ := hJ
  obtain ⟨bb, hw⟩ := h.w
  refine c_TC_mean (B := 9999) (by omega) h.1 h.st (by decide) (fun hb => ?_) (fun hx nn hnn e p hp ep K2 r2 hk hR => ?_)
  · refine k _ K r (fun Q' k' => ?_)
    refine jw ?_
    exact c_Mo_mean (by decide) hw h.hb.h h.e32 (fun _ => jd k' h.ji rfl) (fun z => absurd z hb)
  · subst e
    refine k _ K2 r2 (fun Q' k' => ?_)
    have h2 := h.ask hk hR
    refine jw ?_
    refine c_Mo_mean (by decide) hw h.hb.h h.e32 (fun z => absurd hx z) (fun _ nn2 hn2 e2 p2 hp2 ep2 I' A' hm => jdl k' (h2.ms hm (by decide) (by decide)).ji ?_)
    have en : nn2 = nn := (nI_eq (by omega) (by omega)).mp e2.symm
    subst en
    simp only [h.many0, h.k9] at ep
    rw [(nI_eq (by omega) (by omega)).mp (ep2.symm.trans ep)]
theorem jp_odds {x bt y : Int32} (hD : 24 ≤ D) (hJ : JI K I A L r) (k : ∀ (v : Int64) (K2 : tc_K) (r2 : tc_r), jq G m_Mo_odds [.int x, .int bt, .int y] (.long v) K2 r2 I A L → Q (some (.long v)) (HT K2 (JM I A L) r2)) : px_W G D 0 0 m_TC_odds 0 (px_ent 6 [.ref 0, .int x, .int bt, .int y]) [] (HT K (JM I A L) r) Q := by
  obtain ⟨mn, sc, CS, ns, n, ln, cl, q, z, T, nf, h⟩ := hJ
  obtain ⟨bb, hw⟩ := h.w
  have hz : ∀ P : Prop, (P ∧ ¬ I 0 = 0) ↔ (P ∧ 0 < n) := fun P => by
    have hn6 := h.n6
    have e : I 0 = 0 ↔ n = 0 := by rw [h.i0]; exact nI_eq (b := 0) (by omega) (by decide)
    rw [e]
    constructor
    · rintro ⟨a, b⟩; exact ⟨a, by omega⟩
    · rintro ⟨a, b⟩; exact ⟨a, by omega⟩
  have hz2 : ((1 ≤ x ∧ x ≤ 20) ∧ (1 ≤ bt ∧ bt ≤ 99) ∧ (0 ≤ y ∧ y ≤ 1) ∧ ¬ I 0 = 0) ↔ ((1 ≤ x ∧ x ≤ 20) ∧ (1 ≤ bt ∧ bt ≤ 99) ∧ (0 ≤ y ∧ y ≤ 1) ∧ 0 < n) := by rw [hz]
  refine c_TC_odds (B := 9999) (by omega) h.1 h.st (by decide) h.k7 (fun hb => ?_) (fun hx nn hnn e p hp ep K2 r2 hk hR => ?_)
  · refine k _ K r (fun Q' k' => ?_)
    refine jw ?_
    exact c_Mo_odds (by decide) hw h.hb h.e32 h.i0 (fun _ => jd k' h.ji rfl) (fun z => absurd (hz2.mp z) hb)
  · subst e
    refine k _ K2 r2 (fun Q' k' => ?_)
    have h2 := h.ask hk hR
    refine jw ?_
    refine c_Mo_odds (by decide) hw h.hb h.e32 h.i0 (fun z => absurd (hz2.mpr hx) z) (fun _ nn2 hn2 e2 p2 hp2 ep2 I' A' hm => jdl k' (h2.ms hm (by decide) (by decide)).ji ?_)
    have en : nn2 = nn := (nI_eq (by omega) (by omega)).mp e2.symm
    subst en
    simp only [h.many4, h.k9] at ep
    rw [(nI_eq (by omega) (by omega)).mp (ep2.symm.trans ep)]
theorem jp_who {bt : Int32} (hD : 24 ≤ D) (hJ : JI K I A L r) (k : ∀ (v : Int32) (K2 : tc_K) (r2 : tc_r), jq G m_Mo_who [.int bt] (.int v) K2 r2 I A L → Q (some (.int v)) (HT K2 (JM I A L) r2)) : px_W G D 0 0 m_TC_who 0 (px_ent 5 [.ref 0, .int bt]) [] (HT K (JM I A L) r) Q := by
  obtain ⟨mn, sc, CS, ns, n, ln, cl, q, z, T, nf, h⟩ := hJ
  obtain ⟨bb, hw⟩ := h.w
  obtain ⟨hq6, hq1, hq2, hq3⟩ := h.2.1.2.2.2.2.2.1
  refine c_TC_who (B := 9999) (ns := q) (by omega) h.1 h.st (by decide) h.k7 hq2 hq6 (fun hb => ?_) (fun hx K2 r2 hk hR => ?_)
  · refine k _ K r (fun Q' k' => ?_)
    refine jw ?_
    exact c_Mo_who (ns := q) (by decide) hw h.hb h.e32 h.i0 hq1 hq6 (fun _ => jd k' h.ji rfl) (fun z => absurd z hb)
  · refine k _ K2 r2 (fun Q' k' => ?_)
    have h2 := h.ask hk hR
    refine jw ?_
    refine c_Mo_who (ns := q) (by decide) hw h.hb h.e32 h.i0 hq1 hq6 (fun z => absurd hx z) (fun _ I' A' hm => jd' k' (h2.ms hm (by decide) (by decide)).ji ?_)
    have ed : sp_dn (K.2.1 0 5) q 0 0 = sp_dn (A 43) q 0 0 := jf_dn q 0 0 (fun i _ hi => by
      obtain ⟨t, -, g2, g3⟩ := hq3 i (by omega)
      exact g2.trans g3.symm)
    simp only [h.ups4, h.k9, ed]
theorem jp_looked {bt : Int32} (hD : 24 ≤ D) (hJ : JI K I A L r) (k : ∀ (v : Int32) (K2 : tc_K) (r2 : tc_r), jq G m_Mo_looked [.int bt] (.int v) K2 r2 I A L → Q (some (.int v)) (HT K2 (JM I A L) r2)) : px_W G D 0 0 m_TC_looked 0 (px_ent 6 [.ref 0, .int bt]) [] (HT K (JM I A L) r) Q := by
  obtain ⟨mn, sc, CS, ns, n, ln, cl, q, z, T, nf, h⟩ := hJ
  obtain ⟨bb, hw⟩ := h.w
  obtain ⟨hz8, hz1, hz2, hz3, hz4⟩ := h.2.1.2.2.2.2.2.2
  have hzb : ∀ j, j < 8 → A 46 j = bI (decide (A 46 j = 1)) := fun j hj => by
    obtain ⟨u, hu, e⟩ := hz4 j hj
    rw [e]
    rcases (show u = 0 ∨ u = 1 by omega) with rfl | rfl <;> decide
  refine c_TC_looked (B := 9999) (nb := z) (tb := A 45) (up := A 46) (by omega) h.1 h.st (by decide) hz2 hz8 hz3 (fun hb => ?_) (fun hx K2 r2 hk hR => ?_)
  · refine k _ K r (fun Q' k' => ?_)
    refine jw ?_
    exact c_Mo_looked (nb := z) (by decide) hw h.hb.h h.e32 hz1 hz8 hzb (fun _ => jd k' h.ji rfl) (fun z => absurd z hb)
  · refine k _ K2 r2 (fun Q' k' => ?_)
    have h2 := h.ask hk hR
    refine jw ?_
    refine c_Mo_looked (nb := z) (by decide) hw h.hb.h h.e32 hz1 hz8 hzb (fun z => absurd hx z) (fun _ I' A' hm => jd' k' (h2.ms hm (by decide) (by decide)).ji ?_)
    simp only [h.ups0, h.k9]
theorem jp_change {x bt : Int32} (hD : 24 ≤ D) (hJ : JI K I A L r) (k : ∀ (v : Int32) (K2 : tc_K) (r2 : tc_r), jq G m_Mo_change [.int x, .int bt] (.int v) K2 r2 I A L → Q (some (.int v)) (HT K2 (JM I A L) r2)) : px_W G D 0 0 m_TC_change 0 (px_ent 7 [.ref 0, .int x, .int bt]) [] (HT K (JM I A L) r) Q := by
  obtain ⟨mn, sc, CS, ns, n, ln, cl, q, z, T, nf, h⟩ := hJ
  obtain ⟨bb, hw⟩ := h.w
  refine c_TC_change (B := 9999) (by omega) h.1 h.st (by decide) (fun hb => ?_) (fun hx nn hnn e K2 r2 hk hR => ?_)
  · refine k _ K r (fun Q' k' => ?_)
    refine jw ?_
    exact c_Mo_change (by decide) hw h.hb.h h.e32 h.i0 (fun _ => jd k' h.ji rfl) (fun z => absurd z hb)
  · subst e
    refine k _ K2 r2 (fun Q' k' => ?_)
    have h2 := h.ask hk hR
    refine jw ?_
    refine c_Mo_change (by decide) hw h.hb.h h.e32 h.i0 (fun z => absurd hx z) (fun _ nn2 hn2 e2 I' A' hm => jd' k' (h2.ms hm (by decide) (by decide)).ji ?_)
    have en : nn2 = nn := (nI_eq (by omega) (by omega)).mp e2.symm
    subst en
    symm
    rw [jf_ch (g := fun x y => sp_many (A 5, A 6, K.2.1 0 3, sp_sw ln x y, n, cl) (K.1 0 9) (K.2.1 0 1) (K.2.1 0 2) nn2 bt 0 0) (g2 := fun x y => sp_many (A 5, A 6, A 9, sp_sw ln x y, n, cl) (I 2) (A 7) (A 8) nn2 bt 0 0) (fun x y hx hy => by rw [h.k9]; exact h.many (fun p hp => jf_sw h.ln6 hx hy hp) _ _ _ _ _) n 0 _ (by omega), h.k9, h.many0]
end JPB
