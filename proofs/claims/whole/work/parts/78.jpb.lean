theorem jf_slc_x {S S2 : sp_St} {f g : Nat → Int32} {n : Nat} (hn : S.2.2.2.2.1 = n) (h : sp_se S S2) (hf : sp_he f g) : ∀ (q p : Nat) (w most : Int32), p + q = n → sp_slc S f q p w most = sp_slc S2 g q p w most := by
  intro q
  induction q with
  | zero => intro p w most _; rfl
  | succ q ih =>
    intro p w most hp
    rw [sp_slc, sp_slc, sp_hold_x h hf (by omega), (h.2.2.2 p (by omega)).1, ih (p + 1) _ _ (by omega), ih (p + 1) _ _ (by omega)]
theorem jt_10 {x : Int32} {n : Nat} (hn : n ≤ 6) : (10 ≤ x ∧ x ≤ 9 + nI n) ↔ ∃ p, p < n ∧ x = nI (10 + p) := by
  have e9 : (9 : Int32) + nI n = nI (9 + n) := nI_add 9 n
  rw [e9]
  constructor
  · rintro ⟨h1, h2⟩
    obtain ⟨c, hc, rfl⟩ := nI_of (x := x) (fun z => Int32.lt_irrefl (Int32.lt_trans (Int32.lt_of_le_of_lt h1 z) (by decide)))
    have g1 := (nI_leI (a := 10) (by decide) hc).mp h1
    have g2 := (nI_leI hc (by omega)).mp h2
    exact ⟨c - 10, by omega, congrArg nI (by omega)⟩
  · rintro ⟨p, hp, rfl⟩
    exact ⟨nI_le (a := 10) (by omega) (by omega), nI_le (by omega) (by omega)⟩
section JPC
variable {mn : tc_mn} {sc : tc_sc} {CS : Nat → List sp_Cl} {ns n : Nat} {ln : Nat → Nat} {cl : List sp_Cl} {q z : Nat} {T : Nat → Nat} {nf : Nat} {K : tc_K} {I : Nat → Int32} {A : Nat → Nat → Int32} {L : Nat → Nat → Int64} {r : tc_r}
theorem JX.wb (h : JX mn sc CS ns n ln cl q z T nf K I A L r) : sp_wb (A 5, A 6, A 9, ln, n, cl) (A 7) 9999 := by
  obtain ⟨h1, ⟨h2, -⟩, ⟨h3, h3b, h3c⟩, ⟨h4, h4b, h4c⟩, ⟨h5, h5b, -⟩, -⟩ := h.2.1
  refine ⟨h5b, h1.1, fun p hp => ?_, fun i hi => ?_, fun m hm => ?_⟩
  · have := (h2 p hp).1
    have := h1.1
    exact ⟨by show ln p < 6; omega, h3b _ (by show ln p < 6; omega)⟩
  · obtain ⟨x, g1, g2, g3⟩ := h4c i hi
    exact ⟨x, g1, g3⟩
  · obtain ⟨hh, g1, g2, g3⟩ := h4 m hm
    exact ⟨hh, g1, g2⟩
/-- a MAN's number, on both sides -/
theorem JX.mm (h : JX mn sc CS ns n ln cl q z T nf K I A L r) {m : Int32} (hm : 0 ≤ m ∧ m ≤ I 0 - 1) : ∃ mm, mm < n ∧ m = nI mm := (i_rng (by have := h.n6; omega)).mp (h.man.mp hm)
theorem JX.nm (h : JX mn sc CS ns n ln cl q z T nf K I A L r) {m : Int32} (hm : ¬ (0 ≤ m ∧ m < nI n)) : ¬ (0 ≤ m ∧ m ≤ I 0 - 1) := fun z => hm (h.man.mp z)
theorem JX.im (h : JX mn sc CS ns n ln cl q z T nf K I A L r) {mm : Nat} (hm : mm < n) : 0 ≤ nI mm ∧ nI mm ≤ I 0 - 1 := h.man.mpr ((i_rng (by have := h.n6; omega)).mpr ⟨mm, hm, rfl⟩)
/-- the tapes -/
theorem JX.tp (h : JX mn sc CS ns n ln cl q z T nf K I A L r) : ∀ t, t < 6 → ∃ l, l ≤ 60 ∧ K.1 (6 + t) 2 = nI l ∧ (K.1 (6 + t) 1 < 0 → l = 0) := fun t ht => by
  obtain ⟨g1, g2, -, ⟨l, g3, g4, g5⟩, -⟩ := h.2.2.1.2.2.2.1 t ht
  exact ⟨l, g3, g2.trans g4, fun z => g5 (by rw [← g1]; exact z)⟩
theorem JX.t1 (h : JX mn sc CS ns n ln cl q z T nf K I A L r) {t : Nat} (ht : t < 6) : K.1 (6 + t) 1 = A 66 t := (h.2.2.1.2.2.2.1 t ht).1
theorem JX.t2 (h : JX mn sc CS ns n ln cl q z T nf K I A L r) {t : Nat} (ht : t < 6) : K.1 (6 + t) 2 = A 67 t := (h.2.2.1.2.2.2.1 t ht).2.1
theorem JX.ty (h : JX mn sc CS ns n ln cl q z T nf K I A L r) {t : Nat} (ht : t < 6) : ∀ i, i < 60 → K.2.2.2.2 t i = L 68 (60 * t + i) := (h.2.2.1.2.2.2.1 t ht).2.2.2.2
theorem jt_m1 {x : Int32} (h : -1 ≤ x) : x < 0 ↔ x = -1 := by
  rw [Int32.le_iff_toInt_le] at h
  rw [Int32.lt_iff_toInt_lt]
  constructor
  · intro z
    apply Int32.toInt_inj.mp
    have h1 : ((-1 : Int32)).toInt = -1 := by decide
    have h0 : ((0 : Int32)).toInt = 0 := by decide
    omega
  · rintro rfl; decide
theorem JX.neg (h : JX mn sc CS ns n ln cl q z T nf K I A L r) {t : Nat} (ht : t < 6) : A 66 t < 0 ↔ A 66 t = -1 := jt_m1 (h.2.2.1.2.2.2.1 t ht).2.2.1.1
theorem jt_5 {y : Int32} (h : 0 ≤ y ∧ y ≤ 5) : ∃ t, t < 6 ∧ y = nI t := (i_rng (n := 6) (by decide)).mp ⟨h.1, (i_lt (a := 6) (b := 5) rfl).mpr h.2⟩
theorem jt_i5 {t : Nat} (h : t < 6) : 0 ≤ nI t ∧ nI t ≤ 5 := ⟨nI_pos' (by omega), nI_le (b := 5) (by omega) (by decide)⟩
end JPC
section JPD
variable {G : px_G} {D : Nat} {Q : Option Value → px_H → Prop} {K : tc_K} {I : Nat → Int32} {A : Nat → Nat → Int32} {L : Nat → Nat → Int64} {r : tc_r}

theorem jp_on {x bt y : Int32} (hD : 24 ≤ D) (hJ : JI K I A L r) (k : ∀ (v : Int32) (K2 : tc_K) (r2 : tc_r), jq G m_Mo_on [.int x, .int bt, .int y] (.int v) K2 r2 I A L → Q (some (.int v)) (HT K2 (JM I A L) r2)) : px_W G D 0 0 m_TC_on 0 (px_ent 5 [.ref 0, .int x, .int bt, .int y]) [] (HT K (JM I A L) r) Q := by
  obtain ⟨mn, sc, CS, ns, n, ln, cl, q, z, T, nf, h⟩ := hJ
  obtain ⟨bb, hw⟩ := h.w
  refine c_TC_on (B := 9999) (by omega) h.1 h.st (by decide) (fun hn => ?_) (fun hy hb => ?_) (fun hy nn hnn e hbt K2 r2 hk hR dr hdr => ?_)
  · refine k _ K r (fun Q' k' => ?_)
    refine jw ?_
    exact c_Mo_on (by decide) hw h.hb.h h.e32 h.i0 (fun _ => jd k' h.ji rfl) (fun z => absurd z hn) (fun z => absurd z hn)
  · refine k _ K r (fun Q' k' => ?_)
    refine jw ?_
    exact c_Mo_on (by decide) hw h.hb.h h.e32 h.i0 (fun z => absurd hy z) (fun _ _ => jd k' h.ji rfl) (fun _ z => absurd z hb)
  · subst e
    have hx : 0 ≤ nI nn ∧ nI nn ≤ 30 := ⟨nI_pos' (by omega), nI_le (b := 30) (by omega) (by decide)⟩
    refine k _ K2 r2 (fun Q' k' => ?_)
    have h2 := h.ask hk hR
    refine jw ?_
    refine c_Mo_on (by decide) hw h.hb.h h.e32 h.i0 (fun z => absurd hy z) (fun _ z => absurd ⟨hx, hbt⟩ z) (fun _ _ nn2 hn2 e2 I' A' hm => jd' k' (h2.ms hm (by decide) (by decide)).ji ?_)
    have en : nn2 = nn := (nI_eq (by omega) (by omega)).mp e2.symm
    subst en
    simp only [h.drp0, h.k9] at hdr
    obtain ⟨e1, e3⟩ := jf_on (n := n) h.n6 hdr (fun a ha => jf_drp0 (fun p hp e => by
      have := (h.2.1.2.1.1 p hp).1
      have e' : ln p = a := e
      omega))
    simp only [h.many0, h.lat0, h.k9, e1]
    by_cases c : sp_md (sp_drp (A 5, A 6, A 9, ln, n, cl) (I 2) (A 7) (A 8) nn2 bt 0 0) n 0 (-5) < 0
    · rw [if_pos c, if_pos c]
    · rw [if_neg c, if_neg c, e3 c]
theorem jp_slowest (hD : 24 ≤ D) (hJ : JI K I A L r) (k : ∀ (v : Int32) (K2 : tc_K) (r2 : tc_r), jq G m_Mo_slowest [] (.int v) K2 r2 I A L → Q (some (.int v)) (HT K2 (JM I A L) r2)) : px_W G D 0 0 m_TC_slowest 0 (px_ent 5 [.ref 0]) [] (HT K (JM I A L) r) Q := by
  obtain ⟨mn, sc, CS, ns, n, ln, cl, q, z, T, nf, h⟩ := hJ
  obtain ⟨bb, hw⟩ := h.w
  refine c_TC_slowest (B := 9999) (by omega) h.1 h.st (by decide) (fun r2 hR => ?_)
  refine k _ K r2 (fun Q' k' => ?_)
  have h2 := h.ask tk.rf hR
  refine jw ?_
  refine c_Mo_slowest (by decide) h.i0 hw h.hb.h (fun I' A' hm => jd' k' (h2.ms hm (by decide) (by decide)).ji ?_)
  rw [jf_slc_x (n := n) rfl (h.se h.ln6) h.h1 n 0 (-5) 0 (by omega)]
  refine (jf_slc (S := (A 5, A 6, A 9, ln, n, cl)) (held := A 7) (n := n) (fun p hp => ?_) n 0 (-5) 0 (by omega) (Or.inl ⟨rfl, rfl⟩)).symm
  obtain ⟨y, y1, y2, ey⟩ := sp_hold_b h.wb (by decide) (show p < n from hp)
  exact ⟨by rw [ey]; exact nI_lt (a := 0) (by omega) (by omega), h.ln6 p hp⟩
theorem jp_order {x y : Int32} (hD : 24 ≤ D) (hJ : JI K I A L r) (k : ∀ (v : Int32) (K2 : tc_K) (r2 : tc_r), jq G m_Mo_order [.int x, .int y] (.int v) K2 r2 I A L → Q (some (.int v)) (HT K2 (JM I A L) r2)) : px_W G D 0 0 m_TC_order 0 (px_ent 7 [.ref 0, .int x, .int y]) [] (HT K (JM I A L) r) Q := by
  obtain ⟨mn, sc, CS, ns, n, ln, cl, q, z, T, nf, h⟩ := hJ
  obtain ⟨bb, hw⟩ := h.w
  refine c_TC_order (B := 9999) (by omega) h.1 h.st (by decide) h.k7 h.hal (fun hn => ?_) (fun hy hb => ?_) (fun hy hx h5 => ?_) (fun hy hx h5 nn hnn e K2 r2 hk hR => ?_)
  · refine k _ K r (fun Q' k' => ?_)
    refine jw ?_
    exact c_Mo_order (by decide) hw h.hb.h h.e32 h.i0 (fun _ => jd k' h.ji rfl) (fun z => absurd z hn) (fun z => absurd z hn) (fun z => absurd z hn)
  · refine k _ K r (fun Q' k' => ?_)
    refine jw ?_
    exact c_Mo_order (by decide) hw h.hb.h h.e32 h.i0 (fun z => absurd hy z) (fun _ _ => jd k' h.ji rfl) (fun _ z => absurd z hb) (fun _ z => absurd z hb)
  · refine k _ K r (fun Q' k' => ?_)
    refine jw ?_
    exact c_Mo_order (by decide) hw h.hb.h h.e32 h.i0 (fun z => absurd hy z) (fun _ z => absurd hx z) (fun _ _ _ => jd k' h.ji rfl) (fun _ _ z => absurd z h5)
  · subst e
    refine k _ K2 r2 (fun Q' k' => ?_)
    have h2 := h.ask hk hR
    refine jw ?_
    refine c_Mo_order (by decide) hw h.hb.h h.e32 h.i0 (fun z => absurd hy z) (fun _ z => absurd hx z) (fun _ _ z => absurd h5 z) (fun _ _ _ nn2 hn2 e2 I' A' hm => jd' k' (h2.ms hm (by decide) (by decide)).ji ?_)
    have en : nn2 = nn := (nI_eq (by omega) (by omega)).mp e2.symm
    subst en
    have hge : ∀ i, ∃ a, a ≤ 100 ∧ sp_hu ((fun k0 => sp_safe (fun z => sp_many (A 5, A 6, A 9, (fun p => (sp_pm n k0).getD p 0), n, cl) (I 2) (A 7) (A 8) nn2 z 0 0) (nI nn2) 99 1) i) = nI a := fun i => by
      obtain ⟨a, -, g2, g3⟩ := sp_hu_ge (g := fun z => sp_many (A 5, A 6, A 9, (fun p => (sp_pm n i).getD p 0), n, cl) (I 2) (A 7) (A 8) nn2 z 0 0) (n := nI nn2) 99 1 rfl
      exact ⟨a, g2, g3⟩
    obtain ⟨fq, efq⟩ : ∃ fq, sp_fac n = fq + 1 := ⟨sp_fac n - 1, by
      have : ∀ n, n < 5 → 0 < sp_fac n := by decide
      have := this n h5
      omega⟩
    have eo : sp_ord (fun k0 => sp_safe (fun z => sp_many (A 5, A 6, K.2.1 0 3, nprow n k0, n, cl) (K.1 0 9) (K.2.1 0 1) (K.2.1 0 2) nn2 z 0 0) (nI nn2) 99 1) (sp_fac n) 0 (nI 100, 0) = sp_ord (fun k0 => sp_safe (fun z => sp_many (A 5, A 6, A 9, (fun p => (sp_pm n k0).getD p 0), n, cl) (I 2) (A 7) (A 8) nn2 z 0 0) (nI nn2) 99 1) (sp_fac n) 0 (1000, 0) := by
      rw [jf_ord_x (g := (fun k0 => sp_safe (fun z => sp_many (A 5, A 6, K.2.1 0 3, nprow n k0, n, cl) (K.1 0 9) (K.2.1 0 1) (K.2.1 0 2) nn2 z 0 0) (nI nn2) 99 1)) (g2 := (fun k0 => sp_safe (fun z => sp_many (A 5, A 6, A 9, (fun p => (sp_pm n k0).getD p 0), n, cl) (I 2) (A 7) (A 8) nn2 z 0 0) (nI nn2) 99 1)) (sp_fac n) 0 _ (fun i _ hi => by
        have hi2 : i < sp_fac n := by omega
        show sp_safe _ _ 99 1 = sp_safe _ _ 99 1
        rw [h.k9]
        congr 1
        funext z
        exact h.many (fun p hp => by
          have := jf_pm n h5 i hi2 p hp
          show (sp_pm n i).getD p 0 < 6
          omega) _ _ _ _ _), efq]
      obtain ⟨a, g2, g3⟩ := hge 0
      exact jf_ord (g := (fun k0 => sp_safe (fun z => sp_many (A 5, A 6, A 9, (fun p => (sp_pm n k0).getD p 0), n, cl) (I 2) (A 7) (A 8) nn2 z 0 0) (nI nn2) 99 1)) (q := fq) (a := a) g2 g3
    obtain ⟨a, ha, ea⟩ := jf_ord_b (g := (fun k0 => sp_safe (fun z => sp_many (A 5, A 6, A 9, (fun p => (sp_pm n k0).getD p 0), n, cl) (I 2) (A 7) (A 8) nn2 z 0 0) (nI nn2) 99 1)) (sp_fac n) 0 (nI 100, 0) ⟨100, by decide, rfl⟩ (fun i _ _ => hge i)
    have ea3 : sp_ord (fun k0 => sp_safe (fun z => sp_many (A 5, A 6, A 9, (fun p => (sp_pm n k0).getD p 0), n, cl) (I 2) (A 7) (A 8) nn2 z 0 0) (nI nn2) 99 1) (sp_fac n) 0 (nI 100, 0) = sp_ord (fun k0 => sp_safe (fun z => sp_many (A 5, A 6, A 9, (fun p => (sp_pm n k0).getD p 0), n, cl) (I 2) (A 7) (A 8) nn2 z 0 0) (nI nn2) 99 1) (sp_fac n) 0 (1000, 0) := by
      rw [efq]
      obtain ⟨a, g2, g3⟩ := hge 0
      exact jf_ord (g := (fun k0 => sp_safe (fun z => sp_many (A 5, A 6, A 9, (fun p => (sp_pm n k0).getD p 0), n, cl) (I 2) (A 7) (A 8) nn2 z 0 0) (nI nn2) 99 1)) (q := fq) (a := a) g2 g3
    rw [ea3] at ea
    rw [eo, h.i0]
    revert ea
    generalize sp_ord (fun k0 => sp_safe (fun z => sp_many (A 5, A 6, A 9, (fun p => (sp_pm n k0).getD p 0), n, cl) (I 2) (A 7) (A 8) nn2 z 0 0) (nI nn2) 99 1) (sp_fac n) 0 (1000, 0) = Z
    intro ea
    have e99 : (99 < Z.1) ↔ Z.1 = 100 := by
      rw [ea]
      constructor
      · intro z
        have := (nI_ltI (a := 99) (by decide) (by omega)).mp z
        exact congrArg nI (show a = 100 by omega)
      · intro z
        rw [z]
        decide
    simp only [e99]
    rfl
theorem jp_without {m x bt : Int32} (hD : 24 ≤ D) (hJ : JI K I A L r) (k : ∀ (v : Int32) (K2 : tc_K) (r2 : tc_r), jq G m_Mo_without [.int m, .int x, .int bt] (.int v) K2 r2 I A L → Q (some (.int v)) (HT K2 (JM I A L) r2)) : px_W G D 0 0 m_TC_without 0 (px_ent 4 [.ref 0, .int m, .int x, .int bt]) [] (HT K (JM I A L) r) Q := by
  obtain ⟨mn, sc, CS, ns, n, ln, cl, q, z, T, nf, h⟩ := hJ
  obtain ⟨bb, hw⟩ := h.w
  refine c_TC_without (B := 9999) (by omega) h.1 h.st (by decide) h.k7 h.hpl (fun hn => ?_) (fun mm hm e hb => ?_) (fun mm a hm e ha ea hmin hx nn hnn e1 K2 r2 hk hR => ?_)
  · refine k _ K r (fun Q' k' => ?_)
    refine jw ?_
    exact c_Mo_without (mm := 0) (a := 0) (by decide) hw h.hb.h h.e32 h.i0 (fun z => absurd z (h.nm hn)) (fun _ => jd k' h.ji rfl) (fun z => absurd z (h.nm hn)) (fun z => absurd z (h.nm hn))
  · subst e
    obtain ⟨a, ha, ea, -⟩ := h.hpl mm hm
    refine k _ K r (fun Q' k' => ?_)
    refine jw ?_
    exact c_Mo_without (mm := mm) (a := a) (by decide) hw h.hb.h h.e32 h.i0 (fun _ => ⟨rfl, ha, (h.pl hm ha ea).2⟩) (fun z => absurd (h.im hm) z) (fun _ _ => jd k' h.ji rfl) (fun _ z => absurd z hb)
  · subst e
    subst e1
    refine k _ K2 r2 (fun Q' k' => ?_)
    have h2 := h.ask hk hR
    refine jw ?_
    refine c_Mo_without (mm := mm) (a := a) (by decide) hw h.hb.h h.e32 h.i0 (fun _ => ⟨rfl, ha, (h.pl hm ha ea).2⟩) (fun z => absurd (h.im hm) z) (fun _ z => absurd hx z) (fun _ _ nn2 hn2 e2 I' A' hm2 => jd' k' (h2.ms hm2 (by decide) (by decide)).ji ?_)
    have en : nn2 = nn := (nI_eq (by omega) (by omega)).mp e2.symm
    subst en
    rw [h.many (fun p hp => by
      unfold sp_sh
      split
      · exact h.ln6 _ (by omega)
      · exact h.ln6 _ (by omega)), h.k9]
theorem jp_of {m y : Int32} (hD : 24 ≤ D) (hJ : JI K I A L r) (k : ∀ (v : Int32) (K2 : tc_K) (r2 : tc_r), jq G m_Mo_of [.int m, .int y] (.int v) K2 r2 I A L → Q (some (.int v)) (HT K2 (JM I A L) r2)) : px_W G D 0 0 m_TC_of 0 (px_ent 3 [.ref 0, .int m, .int y]) [] (HT K (JM I A L) r) Q := by
  obtain ⟨mn, sc, CS, ns, n, ln, cl, q, z, T, nf, h⟩ := hJ
  obtain ⟨bb, hw⟩ := h.w
  refine c_TC_of (B := 9999) (by omega) h.1 h.st (by decide) h.k7 h.hal h.hpl (fun hn => ?_) (fun mm a hm e ha ea ey => ?_) (fun mm a hm e ha ea ey => ?_) (fun mm a hm e ha ea ey => ?_) (fun mm a hm e ha ea ey => ?_) (fun mm a hm e ha ea hmin ey => ?_) (fun mm a hm e ha ea ey r2 hR => ?_) (fun mm a hm e ha ea ey r2 hR => ?_) (fun mm a hm e ha ea y0 y1 y2 y3 y4 y5 y6 => ?_)
  · refine k _ K r (fun Q' k' => ?_)
    refine jw ?_
    exact c_Mo_of (mm := 0) (p := 0) (by decide) hw h.hb.h (fun z => absurd z (h.nm hn)) (fun _ => jd k' h.ji rfl) (fun z => absurd z (h.nm hn)) (fun z => absurd z (h.nm hn)) (fun z => absurd z (h.nm hn)) (fun z => absurd z (h.nm hn)) (fun z => absurd z (h.nm hn)) (fun z => absurd z (h.nm hn)) (fun z => absurd z (h.nm hn)) (fun z => absurd z (h.nm hn))
  · subst e
    subst ey
    refine k _ K r (fun Q' k' => ?_)
    refine jw ?_
    refine c_Mo_of (mm := mm) (p := a) (by decide) hw h.hb.h (fun _ => ⟨rfl, by have := h.n6; omega, by have := h.n6; omega, (h.pl hm ha ea).2⟩) (fun z => absurd (h.im hm) z) (fun _ _ => jd' k' h.ji ?_) (fun _ z => absurd z (by decide)) (fun _ z => absurd z (by decide)) (fun _ z => absurd z (by decide)) (fun _ z => absurd z (by decide)) (fun _ z => absurd z (by decide)) (fun _ z => absurd z (by decide)) (fun _ y0 y1 y2 y3 y4 y5 y6 => absurd rfl y0)
    rfl
  · subst e
    subst ey
    refine k _ K r (fun Q' k' => ?_)
    refine jw ?_
    refine c_Mo_of (mm := mm) (p := a) (by decide) hw h.hb.h (fun _ => ⟨rfl, by have := h.n6; omega, by have := h.n6; omega, (h.pl hm ha ea).2⟩) (fun z => absurd (h.im hm) z) (fun _ z => absurd z (by decide)) (fun _ _ => jd' k' h.ji ?_) (fun _ z => absurd z (by decide)) (fun _ z => absurd z (by decide)) (fun _ z => absurd z (by decide)) (fun _ z => absurd z (by decide)) (fun _ z => absurd z (by decide)) (fun _ y0 y1 y2 y3 y4 y5 y6 => absurd rfl y1)
    rfl
  · subst e
    subst ey
    refine k _ K r (fun Q' k' => ?_)
    refine jw ?_
    refine c_Mo_of (mm := mm) (p := a) (by decide) hw h.hb.h (fun _ => ⟨rfl, by have := h.n6; omega, by have := h.n6; omega, (h.pl hm ha ea).2⟩) (fun z => absurd (h.im hm) z) (fun _ z => absurd z (by decide)) (fun _ z => absurd z (by decide)) (fun _ _ => jd' k' h.ji ?_) (fun _ z => absurd z (by decide)) (fun _ z => absurd z (by decide)) (fun _ z => absurd z (by decide)) (fun _ z => absurd z (by decide)) (fun _ y0 y1 y2 y3 y4 y5 y6 => absurd rfl y2)
    exact (h.h1 mm (by have := h.n6; omega)).symm
  · subst e
    subst ey
    refine k _ K r (fun Q' k' => ?_)
    refine jw ?_
    refine c_Mo_of (mm := mm) (p := a) (by decide) hw h.hb.h (fun _ => ⟨rfl, by have := h.n6; omega, by have := h.n6; omega, (h.pl hm ha ea).2⟩) (fun z => absurd (h.im hm) z) (fun _ z => absurd z (by decide)) (fun _ z => absurd z (by decide)) (fun _ z => absurd z (by decide)) (fun _ _ => jd' k' h.ji ?_) (fun _ z => absurd z (by decide)) (fun _ z => absurd z (by decide)) (fun _ z => absurd z (by decide)) (fun _ y0 y1 y2 y3 y4 y5 y6 => absurd rfl y3)
    exact (h.h2 mm (by have := h.n6; omega)).symm
  · subst e
    subst ey
    refine k _ K r (fun Q' k' => ?_)
    refine jw ?_
    refine c_Mo_of (mm := mm) (p := a) (by decide) hw h.hb.h (fun _ => ⟨rfl, by have := h.n6; omega, by have := h.n6; omega, (h.pl hm ha ea).2⟩) (fun z => absurd (h.im hm) z) (fun _ z => absurd z (by decide)) (fun _ z => absurd z (by decide)) (fun _ z => absurd z (by decide)) (fun _ z => absurd z (by decide)) (fun _ _ => jd' k' h.ji ?_) (fun _ z => absurd z (by decide)) (fun _ z => absurd z (by decide)) (fun _ y0 y1 y2 y3 y4 y5 y6 => absurd rfl y4)
    rfl
  · subst e
    subst ey
    refine k _ K r2 (fun Q' k' => ?_)
    have h2 := h.ask tk.rf hR
    refine jw ?_
    refine c_Mo_of (mm := mm) (p := a) (by decide) hw h.hb.h (fun _ => ⟨rfl, by have := h.n6; omega, by have := h.n6; omega, (h.pl hm ha ea).2⟩) (fun z => absurd (h.im hm) z) (fun _ z => absurd z (by decide)) (fun _ z => absurd z (by decide)) (fun _ z => absurd z (by decide)) (fun _ z => absurd z (by decide)) (fun _ z => absurd z (by decide)) (fun _ _ I' A' hm2 => jd' k' (h2.ms hm2 (by decide) (by decide)).ji ?_) (fun _ z => absurd z (by decide)) (fun _ y0 y1 y2 y3 y4 y5 y6 => absurd rfl y5)
    have e7 : ∀ f, sp_fact (A 5) (A 6) (K.2.1 0 1) mm a f = sp_fact (A 5) (A 6) (A 7) mm a f := fun f => by
      unfold sp_fact
      rw [h.h1 mm (by have := h.n6; omega)]
    rw [show sp_fact (A 5) (A 6) (K.2.1 0 1) mm a = sp_fact (A 5) (A 6) (A 7) mm a from funext e7]
  · subst e
    subst ey
    refine k _ K r2 (fun Q' k' => ?_)
    have h2 := h.ask tk.rf hR
    refine jw ?_
    refine c_Mo_of (mm := mm) (p := a) (by decide) hw h.hb.h (fun _ => ⟨rfl, by have := h.n6; omega, by have := h.n6; omega, (h.pl hm ha ea).2⟩) (fun z => absurd (h.im hm) z) (fun _ z => absurd z (by decide)) (fun _ z => absurd z (by decide)) (fun _ z => absurd z (by decide)) (fun _ z => absurd z (by decide)) (fun _ z => absurd z (by decide)) (fun _ z => absurd z (by decide)) (fun _ _ I' A' hm2 => jd' k' (h2.ms hm2 (by decide) (by decide)).ji ?_) (fun _ y0 y1 y2 y3 y4 y5 y6 => absurd rfl y6)
    rw [sp_hold_x (h.se h.ln6) h.h1 (show a < n from ha)]
    show _ = sp_holds (A 5 (ln a)) (A 6 (ln a)) (A 7 (ln a)) (A 9 (4 * ln a + (A 7 (ln a)).toNatClampNeg % 4)) (sp_pace (sp_fact (A 5) (A 6) (A 7) (ln a) a) cl)
    rw [(h.pl hm ha ea).1]
  · subst e
    refine k _ K r (fun Q' k' => ?_)
    refine jw ?_
    exact c_Mo_of (mm := mm) (p := a) (by decide) hw h.hb.h (fun _ => ⟨rfl, by have := h.n6; omega, by have := h.n6; omega, (h.pl hm ha ea).2⟩) (fun z => absurd (h.im hm) z) (fun _ z => absurd z y0) (fun _ z => absurd z y1) (fun _ z => absurd z y2) (fun _ z => absurd z y3) (fun _ z => absurd z y4) (fun _ z => absurd z y5) (fun _ z => absurd z y6) (fun _ _ _ _ _ _ _ _ => jd' k' h.ji rfl)
theorem jp_told {x : Int32} (hD : 24 ≤ D) (hJ : JI K I A L r) (k : ∀ (v : Int32) (K2 : tc_K) (r2 : tc_r), jq G m_Mo_told [.int x] (.int v) K2 r2 I A L → Q (some (.int v)) (HT K2 (JM I A L) r2)) : px_W G D 0 0 m_TC_told 0 (px_ent 2 [.ref 0, .int x]) [] (HT K (JM I A L) r) Q := by
  obtain ⟨mn, sc, CS, ns, n, ln, cl, q, z, T, nf, h⟩ := hJ
  obtain ⟨bb, hw⟩ := h.w
  obtain ⟨bc, hcur⟩ := h.cur
  have hv : (10 ≤ x ∧ x ≤ 9 + I 0) → vp_in (x - 10) 6 := (fun z => by
    obtain ⟨p, hp, rfl⟩ := (jt_10 h.n6).mp (by rw [← h.i0]; exact z)
    have hn6 := h.n6
    rw [show nI (10 + p) - 10 = nI p from by rw [← nI_add, show nI 10 = 10 from rfl, Int32.add_comm, Int32.add_sub_cancel]]
    exact vp_in_nI (by omega) (by decide))
  refine c_TC_told (B := 9999) (by omega) h.1 h.st (by decide) (fun e => ?_) (fun e => ?_) (fun e => ?_) (fun e => ?_) (fun e => ?_) (fun e => ?_) (fun p hp e => ?_) (fun y0 y1 y2 y3 y4 y5 hno => ?_)
  · subst e
    refine k _ K r (fun Q' k' => ?_)
    refine jw ?_
    exact c_Mo_told (by decide) hcur hv (fun z => absurd z.1 (by decide)) (fun _ _ => jd' k' h.ji (h.k9).symm) (fun _ z => absurd z (by decide)) (fun _ z => absurd z (by decide)) (fun _ z => absurd z (by decide)) (fun _ z => absurd z (by decide)) (fun _ z => absurd z (by decide)) (fun _ y0 y1 y2 y3 y4 y5 => absurd rfl y0)
  · subst e
    refine k _ K r (fun Q' k' => ?_)
    refine jw ?_
    exact c_Mo_told (by decide) hcur hv (fun z => absurd z.1 (by decide)) (fun _ z => absurd z (by decide)) (fun _ _ => jd' k' h.ji h.2.1.1.2.2.2.2.2.1.symm) (fun _ z => absurd z (by decide)) (fun _ z => absurd z (by decide)) (fun _ z => absurd z (by decide)) (fun _ z => absurd z (by decide)) (fun _ y0 y1 y2 y3 y4 y5 => absurd rfl y1)
  · subst e
    refine k _ K r (fun Q' k' => ?_)
    refine jw ?_
    exact c_Mo_told (by decide) hcur hv (fun z => absurd z.1 (by decide)) (fun _ z => absurd z (by decide)) (fun _ z => absurd z (by decide)) (fun _ _ => jd' k' h.ji h.2.1.1.2.2.2.2.2.2.1.symm) (fun _ z => absurd z (by decide)) (fun _ z => absurd z (by decide)) (fun _ z => absurd z (by decide)) (fun _ y0 y1 y2 y3 y4 y5 => absurd rfl y2)
  · subst e
    refine k _ K r (fun Q' k' => ?_)
    refine jw ?_
    exact c_Mo_told (by decide) hcur hv (fun z => absurd z.1 (by decide)) (fun _ z => absurd z (by decide)) (fun _ z => absurd z (by decide)) (fun _ z => absurd z (by decide)) (fun _ _ => jd' k' h.ji rfl) (fun _ z => absurd z (by decide)) (fun _ z => absurd z (by decide)) (fun _ y0 y1 y2 y3 y4 y5 => absurd rfl y3)
  · subst e
    refine k _ K r (fun Q' k' => ?_)
    refine jw ?_
    exact c_Mo_told (by decide) hcur hv (fun z => absurd z.1 (by decide)) (fun _ z => absurd z (by decide)) (fun _ z => absurd z (by decide)) (fun _ z => absurd z (by decide)) (fun _ z => absurd z (by decide)) (fun _ _ => jd' k' h.ji rfl) (fun _ z => absurd z (by decide)) (fun _ y0 y1 y2 y3 y4 y5 => absurd rfl y4)
  · subst e
    refine k _ K r (fun Q' k' => ?_)
    refine jw ?_
    exact c_Mo_told (by decide) hcur hv (fun z => absurd z.1 (by decide)) (fun _ z => absurd z (by decide)) (fun _ z => absurd z (by decide)) (fun _ z => absurd z (by decide)) (fun _ z => absurd z (by decide)) (fun _ z => absurd z (by decide)) (fun _ _ => jd' k' h.ji rfl) (fun _ y0 y1 y2 y3 y4 y5 => absurd rfl y5)
  · subst e
    have hn6 := h.n6
    have h10 : 10 ≤ nI (10 + p) ∧ nI (10 + p) ≤ 9 + I 0 := by rw [h.i0]; exact (jt_10 h.n6).mpr ⟨p, hp, rfl⟩
    refine k _ K r (fun Q' k' => ?_)
    refine jw ?_
    refine c_Mo_told (by decide) hcur hv (fun _ => jd' k' h.ji ?_) (fun z => absurd h10 z) (fun z => absurd h10 z) (fun z => absurd h10 z) (fun z => absurd h10 z) (fun z => absurd h10 z) (fun z => absurd h10 z) (fun z => absurd h10 z)
    rw [show nI (10 + p) - 10 = nI p from by rw [← nI_add, show nI 10 = 10 from rfl, Int32.add_comm, Int32.add_sub_cancel], nI_clamp (by omega)]
    obtain ⟨-, g2, g3⟩ := h.2.1.2.1.1 p hp
    exact g2.trans g3.symm
  · refine k _ K r (fun Q' k' => ?_)
    refine jw ?_
    exact c_Mo_told (by decide) hcur hv (fun z => absurd (jt_10 h.n6 |>.mp (by rw [← h.i0]; exact z)) (fun ⟨p, hp, e⟩ => hno p hp e)) (fun _ z => absurd z y0) (fun _ z => absurd z y1) (fun _ z => absurd z y2) (fun _ z => absurd z y3) (fun _ z => absurd z y4) (fun _ z => absurd z y5) (fun _ _ _ _ _ _ _ => jd' k' h.ji rfl)
theorem jp_count {x : Int32} (hD : 24 ≤ D) (hJ : JI K I A L r) (k : ∀ (v : Int32) (K2 : tc_K) (r2 : tc_r), jq G m_Mo_count [.int x] (.int v) K2 r2 I A L → Q (some (.int v)) (HT K2 (JM I A L) r2)) : px_W G D 0 0 m_TC_count 0 (px_ent 2 [.ref 0, .int x]) [] (HT K (JM I A L) r) Q := by
  obtain ⟨mn, sc, CS, ns, n, ln, cl, q, z, T, nf, h⟩ := hJ
  obtain ⟨bb, hw⟩ := h.w
  refine c_TC_count (by omega) (fun e => ?_) (fun e => ?_) (fun e => ?_) (fun e => ?_) (fun e => ?_) (fun e => ?_) (fun y0 y1 y2 y3 y4 y5 => ?_)
  · subst e
    refine k _ K r (fun Q' k' => ?_)
    refine jw ?_
    exact c_Mo_count (by decide) (fun _ => jd' k' h.ji (h.i0.trans h.k7.symm)) (fun z => absurd z (by decide)) (fun z => absurd z (by decide)) (fun z => absurd z (by decide)) (fun z => absurd z (by decide)) (fun z => absurd z (by decide)) (fun y0 y1 y2 y3 y4 y5 => absurd rfl y0)
  · subst e
    refine k _ K r (fun Q' k' => ?_)
    refine jw ?_
    exact c_Mo_count (by decide) (fun z => absurd z (by decide)) (fun _ => jd' k' h.ji (h.2.2.1.1.2.1.trans h.2.2.1.1.1.symm)) (fun z => absurd z (by decide)) (fun z => absurd z (by decide)) (fun z => absurd z (by decide)) (fun z => absurd z (by decide)) (fun y0 y1 y2 y3 y4 y5 => absurd rfl y1)
  · subst e
    refine k _ K r (fun Q' k' => ?_)
    refine jw ?_
    exact c_Mo_count (by decide) (fun z => absurd z (by decide)) (fun z => absurd z (by decide)) (fun _ => jd' k' h.ji (h.2.1.2.2.2.2.2.1.2.1.trans h.2.1.2.2.2.2.2.1.2.2.1.symm)) (fun z => absurd z (by decide)) (fun z => absurd z (by decide)) (fun z => absurd z (by decide)) (fun y0 y1 y2 y3 y4 y5 => absurd rfl y2)
  · subst e
    refine k _ K r (fun Q' k' => ?_)
    refine jw ?_
    exact c_Mo_count (by decide) (fun z => absurd z (by decide)) (fun z => absurd z (by decide)) (fun z => absurd z (by decide)) (fun _ => jd' k' h.ji (h.2.1.2.2.2.2.2.2.2.1.trans h.2.1.2.2.2.2.2.2.2.2.1.symm)) (fun z => absurd z (by decide)) (fun z => absurd z (by decide)) (fun y0 y1 y2 y3 y4 y5 => absurd rfl y3)
  · subst e
    refine k _ K r (fun Q' k' => ?_)
    refine jw ?_
    exact c_Mo_count (by decide) (fun z => absurd z (by decide)) (fun z => absurd z (by decide)) (fun z => absurd z (by decide)) (fun z => absurd z (by decide)) (fun _ => jd' k' h.ji (h.2.2.1.2.1.2.2.1.trans h.2.2.1.2.1.2.1.symm)) (fun z => absurd z (by decide)) (fun y0 y1 y2 y3 y4 y5 => absurd rfl y4)
  · subst e
    refine k _ K r (fun Q' k' => ?_)
    refine jw ?_
    exact c_Mo_count (by decide) (fun z => absurd z (by decide)) (fun z => absurd z (by decide)) (fun z => absurd z (by decide)) (fun z => absurd z (by decide)) (fun z => absurd z (by decide)) (fun _ => jd' k' h.ji (h.2.2.1.2.2.1.1.symm)) (fun y0 y1 y2 y3 y4 y5 => absurd rfl y5)
  · refine k _ K r (fun Q' k' => ?_)
    refine jw ?_
    exact c_Mo_count (by decide) (fun z => absurd z y0) (fun z => absurd z y1) (fun z => absurd z y2) (fun z => absurd z y3) (fun z => absurd z y4) (fun z => absurd z y5) (fun _ _ _ _ _ _ => jd' k' h.ji rfl)
theorem jp_trace {x : Int32} (hD : 24 ≤ D) (hJ : JI K I A L r) (k : ∀ (v : Int32) (K2 : tc_K) (r2 : tc_r), jq G m_Mo_trace [.int x] (.int v) K2 r2 I A L → Q (some (.int v)) (HT K2 (JM I A L) r2)) : px_W G D 0 0 m_TC_trace 0 (px_ent 2 [.ref 0, .int x]) [] (HT K (JM I A L) r) Q := by
  obtain ⟨mn, sc, CS, ns, n, ln, cl, q, z, T, nf, h⟩ := hJ
  obtain ⟨bb, hw⟩ := h.w
  obtain ⟨hr0, hr1⟩ := h.2.2.1.2.2.1
  refine c_TC_trace (by omega) (fun hno => ?_) (fun i hi e hlt => ?_)
  · refine k _ K r (fun Q' k' => ?_)
    refine jw ?_
    exact c_Mo_trace (by decide) (fun hx hlt => by
      obtain ⟨i, hi, e⟩ := (i_rng (m := x) (n := 20) (by decide)).mp ⟨hx.1, (i_lt (a := 20) (b := 19) rfl).mpr hx.2⟩
      exact absurd (by rw [hr0]; exact hlt) (hno i hi e)) (fun _ => jd' k' h.ji rfl)
  · subst e
    refine k _ K r (fun Q' k' => ?_)
    refine jw ?_
    exact c_Mo_trace (by decide) (fun _ _ => jd' k' h.ji (by rw [nI_clamp (by omega)]; exact (hr1 i hi).symm)) (fun z => absurd ⟨⟨nI_pos' (by omega), nI_le (b := 19) (by omega) (by decide)⟩, by rw [← hr0]; exact hlt⟩ z)
theorem jp_taken {m x : Int32} (hD : 24 ≤ D) (hJ : JI K I A L r) (k : ∀ (v : Int32) (K2 : tc_K) (r2 : tc_r), jq G m_Mo_taken [.int m, .int x] (.int v) K2 r2 I A L → Q (some (.int v)) (HT K2 (JM I A L) r2)) : px_W G D 0 0 m_TC_taken 0 (px_ent 6 [.ref 0, .int m, .int x]) [] (HT K (JM I A L) r) Q := by
  obtain ⟨mn, sc, CS, ns, n, ln, cl, q, z, T, nf, h⟩ := hJ
  obtain ⟨bb, hw⟩ := h.w
  have hv : (0 ≤ m ∧ m ≤ I 0 - 1) → vp_in m 6 := (fun z => by
    obtain ⟨c, hc, rfl⟩ := h.mm z
    exact vp_in_nI (by have := h.n6; omega) (by decide))
  refine c_TC_taken (B := 9999) (by omega) h.1 h.st (by decide) h.k7 h.hal (fun hb => ?_) (fun hx hm => ?_) (fun mm hm e hx hc => ?_) (fun mm hm e hx hc => ?_)
  · refine k _ K r (fun Q' k' => ?_)
    refine jw ?_
    exact c_Mo_taken (by decide) hv (fun _ => jd' k' h.ji rfl) (fun z => absurd z hb) (fun z => absurd z hb) (fun z => absurd z hb)
  · refine k _ K r (fun Q' k' => ?_)
    refine jw ?_
    exact c_Mo_taken (by decide) hv (fun z => absurd hx z) (fun _ _ => jd' k' h.ji rfl) (fun _ z => absurd z (h.nm hm)) (fun _ z => absurd z (h.nm hm))
  · subst e
    have hn6 := h.n6
    have ec : (nI mm).toNatClampNeg = mm := nI_clamp (by omega)
    refine k _ K r (fun Q' k' => ?_)
    refine jw ?_
    exact c_Mo_taken (by decide) hv (fun z => absurd hx z) (fun _ z => absurd (h.im hm) z) (fun _ _ _ => jd' k' h.ji (by rw [ec])) (fun _ _ z => absurd (by rw [ec]; exact hc) z)
  · subst e
    have hn6 := h.n6
    have ec : (nI mm).toNatClampNeg = mm := nI_clamp (by omega)
    refine k _ K r (fun Q' k' => ?_)
    refine jw ?_
    exact c_Mo_taken (by decide) hv (fun z => absurd hx z) (fun _ z => absurd (h.im hm) z) (fun _ _ z => absurd (by rw [ec] at z; exact z) hc) (fun _ _ _ => jd' k' h.ji rfl)
theorem jt_rg {i x : Int32} {l : Nat} (hl : l ≤ 60) (e : x = nI l) (h : 0 ≤ i ∧ i ≤ x - 1) : ∃ a, a < 60 ∧ i = nI a := by
  subst e
  obtain ⟨c, hc, rfl⟩ := nI_of (Int32.not_lt.mpr h.1)
  by_cases h0 : l = 0
  · subst h0
    exact absurd h.2 (fun z => nI_pos hc (Int32.lt_of_le_of_lt z (by decide)))
  · have h2 := h.2
    rw [show nI l = nI (l - 1 + 1) from congrArg nI (by omega), nI_pred] at h2
    have := (nI_leI hc (by omega)).mp h2
    exact ⟨c, by omega, rfl⟩
theorem jt_rl {i : Int32} {l : Nat} (hl : l ≤ 60) : (0 ≤ i ∧ i ≤ nI l - 1) ↔ ∃ a, a < l ∧ i = nI a := by
  constructor
  · intro h
    obtain ⟨c, hc, rfl⟩ := nI_of (Int32.not_lt.mpr h.1)
    by_cases h0 : l = 0
    · subst h0
      exact absurd h.2 (fun z => nI_pos hc (Int32.lt_of_le_of_lt z (by decide)))
    · have h2 := h.2
      rw [show nI l = nI (l - 1 + 1) from congrArg nI (by omega), nI_pred] at h2
      have := (nI_leI hc (by omega)).mp h2
      exact ⟨c, by omega, rfl⟩
  · rintro ⟨a, ha, rfl⟩
    refine ⟨nI_pos' (by omega), ?_⟩
    rw [show nI l = nI (l - 1 + 1) from congrArg nI (by omega), nI_pred]
    exact nI_le (by omega) (by omega)
theorem jp_read {y i : Int32} (hD : 24 ≤ D) (hJ : JI K I A L r) (k : ∀ (v : Int64) (K2 : tc_K) (r2 : tc_r), jq G m_Mo_read [.int y, .int i] (.long v) K2 r2 I A L → Q (some (.long v)) (HT K2 (JM I A L) r2)) : px_W G D 0 0 m_TC_read 0 (px_ent 4 [.ref 0, .int y, .int i]) [] (HT K (JM I A L) r) Q := by
  obtain ⟨mn, sc, CS, ns, n, ln, cl, q, z, T, nf, h⟩ := hJ
  obtain ⟨bb, hw⟩ := h.w
  refine c_TC_read (by omega) h.tp (fun hn => ?_) (fun t l ht e el hl hno => ?_) (fun t l a ht e el hl ha ei => ?_)
  · refine k _ K r (fun Q' k' => ?_)
    refine jw ?_
    exact c_Mo_read (tt := 0) (by decide) (fun z => absurd z hn) (fun z => absurd z hn) (fun _ => jdl k' h.ji rfl) (fun z => absurd z hn)
  · subst e
    refine k _ K r (fun Q' k' => ?_)
    refine jw ?_
    exact c_Mo_read (tt := t) (by decide) (fun _ => ⟨rfl, ht⟩) (fun _ z => by
      obtain ⟨l, g3, g4, g5⟩ := (h.2.2.1.2.2.2.1 t ht).2.2.2.1
      exact jt_rg g3 g4 z) (fun _ => jdl k' h.ji rfl) (fun _ _ ii hii e2 hr => by
      rw [← h.t2 ht, el] at hr
      obtain ⟨a, ha, ea⟩ := (jt_rl hl).mp hr
      exact absurd ea (hno a ha))
  · subst e
    subst ei
    have hin : 0 ≤ nI a ∧ nI a ≤ A 67 t - 1 := by rw [← h.t2 ht, el]; exact (jt_rl hl).mpr ⟨a, ha, rfl⟩
    have hso : ¬ A 66 t < 0 := fun z => by
      obtain ⟨l2, g3, g4, g5⟩ := (h.2.2.1.2.2.2.1 t ht).2.2.2.1
      have e2 := (nI_eq (by omega) (by omega)).mp (el.symm.trans ((h.t2 ht).trans g4))
      have := g5 z
      omega
    refine k _ K r (fun Q' k' => ?_)
    refine jw ?_
    exact c_Mo_read (tt := t) (by decide) (fun _ => ⟨rfl, ht⟩) (fun _ z => by
      obtain ⟨l, g3, g4, g5⟩ := (h.2.2.1.2.2.2.1 t ht).2.2.2.1
      exact jt_rg g3 g4 z) (fun z => absurd ⟨jt_i5 ht, hso, hin⟩ z) (fun _ _ ii hii e2 hr => jdl k' h.ji (by
      have := (nI_eq (by omega) (by omega)).mp e2
      subst this
      exact (h.ty ht _ (by omega)).symm))
theorem jp_judge {y x : Int32} (hD : 24 ≤ D) (hJ : JI K I A L r) (k : ∀ (v : Int32) (K2 : tc_K) (r2 : tc_r), jq G m_Mo_judge [.int y, .int x] (.int v) K2 r2 I A L → Q (some (.int v)) (HT K2 (JM I A L) r2)) : px_W G D 0 0 m_TC_judge 0 (px_ent 5 [.ref 0, .int y, .int x]) [] (HT K (JM I A L) r) Q := by
  obtain ⟨mn, sc, CS, ns, n, ln, cl, q, z, T, nf, h⟩ := hJ
  obtain ⟨bb, hw⟩ := h.w
  refine c_TC_judge (by omega) h.k7 h.n6 h.tp (fun hn => ?_) (fun t ht e hc => ?_) (fun t l ht e el hl hc => ?_)
  · refine k _ K r (fun Q' k' => ?_)
    refine jw ?_
    exact c_Mo_judge (tt := 0) (n := n) (by decide) (fun z => absurd z hn) (fun _ => jd' k' h.ji rfl) (fun z => absurd z hn) (fun z => absurd z hn)
  · subst e
    have hc2 : ¬ (A 66 t < 0 ∨ A 66 t = 2) := fun z => hc (by rw [h.t1 ht, ← h.neg ht]; exact z)
    refine k _ K r (fun Q' k' => ?_)
    refine jw ?_
    exact c_Mo_judge (tt := t) (n := n) (by decide) (fun _ => ⟨h.i0, h.n6, rfl, ht, (h.2.2.1.2.2.2.1 t ht).2.2.2.1.imp fun l g => ⟨g.1, g.2.1⟩⟩) (fun z => absurd (jt_i5 ht) z) (fun _ _ => jd' k' h.ji rfl) (fun _ z => absurd z hc2)
  · subst e
    have hc2 : A 66 t < 0 ∨ A 66 t = 2 := by rw [h.neg ht, ← h.t1 ht]; exact hc
    refine k _ K r (fun Q' k' => ?_)
    refine jw ?_
    refine c_Mo_judge (tt := t) (n := n) (by decide) (fun _ => ⟨h.i0, h.n6, rfl, ht, (h.2.2.1.2.2.2.1 t ht).2.2.2.1.imp fun l g => ⟨g.1, g.2.1⟩⟩) (fun z => absurd (jt_i5 ht) z) (fun _ z => absurd hc2 z) (fun _ _ => jd' k' h.ji ?_)
    have e2 : A 67 t = nI l := (h.t2 ht).symm.trans el
    rw [h.t1 ht, e2]
    refine jf_jdg Iff.rfl n 0 (fun a _ ha => ⟨(h.h2 a (by have := h.n6; omega)).symm, fun hno => ?_⟩)
    have hn6 := h.n6
    have hx0 : ¬ x < 0 := fun z => hno (Or.inr (Or.inl z))
    obtain ⟨c, hc31, rfl⟩ := nI_of hx0
    have hlt : a + c < l := by
      have h3 : ¬ nI l - nI a - 1 < nI c := fun z => hno (Or.inr (Or.inr z))
      rw [Int32.lt_iff_toInt_lt] at h3
      by_cases hal : a + 1 ≤ l
      · rw [show nI l - nI a - 1 = nI (l - a - 1) from by
          rw [show nI l = nI (l - a - 1 + (a + 1)) from congrArg nI (by omega), ← nI_add, ← nI_1 a]
          rw [Int32.sub_eq_add_neg, Int32.sub_eq_add_neg, Int32.add_assoc, Int32.add_assoc, ← Int32.add_assoc (nI a + 1) (-nI a) (-1), Int32.add_comm (nI a) 1, Int32.add_assoc 1 (nI a) (-nI a), Int32.add_right_neg, Int32.add_zero, Int32.add_right_neg, Int32.add_zero], nI_toInt (by omega), nI_toInt hc31] at h3
        omega
      · exfalso
        have e4 : nI l - nI a - 1 < 0 := by
          have : ∀ l, l ≤ 60 → ∀ a, a < 6 → ¬ a + 1 ≤ l → nI l - nI a - 1 < 0 := by decide +kernel
          exact this l hl a (by omega) hal
        exact hno (Or.inr (Or.inr (Int32.lt_of_lt_of_le e4 (nI_pos' hc31))))
    rw [nI_add (60 * t) c, nI_add (60 * t + c) a, nI_add c a, nI_clamp (by omega), nI_clamp (by omega), h.ty ht _ (by omega), Nat.add_assoc]
end JPD
