def mo_clb (A : Nat → Nat → Int32) (b : Nat) (cl : List sp_Cl) (s0 : Nat) : Prop := ∀ (j : Nat) (c : sp_Cl), cl[j]? = some c → A 18 (b + j) = nI c.1 ∧ c.1 ≤ 4 ∧ A 19 (b + j) = nI c.2.1 ∧ c.2.1 < 100 ∧ (c.1 ≤ 1 → ∃ fr, fr + c.2.2.length ≤ s0 ∧ A 20 (b + j) = nI fr ∧ A 21 (b + j) = nI (fr + c.2.2.length) ∧ sp_dp c.2.2 0 = some 1 ∧ c.2.2.length ≤ 100 ∧ ∀ (i t : Nat), c.2.2[i]? = some t → t ≤ 6002 ∧ A 22 (fr + i) = mo_enc t)
theorem mo_clb.cl {A : Nat → Nat → Int32} {b s0 : Nat} {cl : List sp_Cl} (h : mo_clb A b cl s0) (hs : s0 ≤ 600) : mo_cl A b cl := by
  intro j c hc
  obtain ⟨h1, h2, h3, h4, h5⟩ := h j c hc
  refine ⟨h1, h2, h3, h4, fun hw => ?_⟩
  obtain ⟨fr, g1, g2, g3, g4, g5, g6⟩ := h5 hw
  exact ⟨fr, by omega, g2, g3, g4, g5, g6⟩
/-- kept: the same below, and below s0 of the signs -/
theorem mo_clb.kp {A A2 : Nat → Nat → Int32} {b s0 s1 : Nat} {cl : List sp_Cl} (h : mo_clb A b cl s0) (hs : s0 ≤ s1) (hk : ∀ j, j < b + cl.length → A2 18 j = A 18 j ∧ A2 19 j = A 19 j ∧ A2 20 j = A 20 j ∧ A2 21 j = A 21 j) (h22 : ∀ j, j < s0 → A2 22 j = A 22 j) : mo_clb A2 b cl s1 := by
  intro j c hc
  obtain ⟨h1, h2, h3, h4, h5⟩ := h j c hc
  have hj := (List.getElem?_eq_some_iff.mp hc).1
  obtain ⟨k1, k2, k3, k4⟩ := hk (b + j) (by omega)
  rw [k1, k2, k3, k4]
  refine ⟨h1, h2, h3, h4, fun hw => ?_⟩
  obtain ⟨fr, g1, g2, g3, g4, g5, g6⟩ := h5 hw
  refine ⟨fr, by omega, g2, g3, g4, g5, fun i t ht => ?_⟩
  have hi := (List.getElem?_eq_some_iff.mp ht).1
  rw [h22 (fr + i) (by omega)]
  exact g6 i t ht
theorem mo_clb.push {A A2 : Nat → Nat → Int32} {b s0 w d : Nat} {l : List Nat} {cl : List sp_Cl} (h : mo_clb A b cl s0) (hk : ∀ j, j ≠ b + cl.length → A2 18 j = A 18 j ∧ A2 19 j = A 19 j ∧ A2 20 j = A 20 j ∧ A2 21 j = A 21 j) (h22 : ∀ j, j < s0 → A2 22 j = A 22 j) (e18 : A2 18 (b + cl.length) = nI w) (hw : w ≤ 4) (e19 : A2 19 (b + cl.length) = nI d) (hd : d < 100) (e20 : w ≤ 1 → A2 20 (b + cl.length) = nI s0 ∧ A2 21 (b + cl.length) = nI (s0 + l.length) ∧ ∀ i t, l[i]? = some t → A2 22 (s0 + i) = mo_enc t) (hdp : w ≤ 1 → sp_dp l 0 = some 1) (hl : l.length ≤ 100) (ht : ∀ t, t ∈ l → t ≤ 6002) : mo_clb A2 b (cl ++ [(w, d, l)]) (s0 + l.length) := by
  intro j c hc
  by_cases hj : j < cl.length
  · rw [List.getElem?_append_left hj] at hc
    exact (h.kp (Nat.le_add_right _ l.length) (fun j hj => hk j (by omega)) h22) j c hc
  · rw [List.getElem?_append_right (by omega)] at hc
    have hz : j - cl.length < 1 := (List.getElem?_eq_some_iff.mp hc).1
    have hj2 : j = cl.length := by omega
    subst hj2
    rw [Nat.sub_self] at hc
    cases hc
    refine ⟨e18, hw, e19, hd, fun hw1 => ⟨s0, Nat.le_refl _, (e20 hw1).1, (e20 hw1).2.1, hdp hw1, hl, fun i t hi => ⟨ht t (List.mem_of_getElem? hi), (e20 hw1).2.2 i t hi⟩⟩⟩
/-- the f-th scaffold's clauses, as the reference keeps them -/
def mo_cs (A : Nat → Nat → Int32) (f : Nat) (cl : List sp_Cl) : Prop := A 17 f = nI cl.length ∧ cl.length ≤ 10 ∧ mo_clb A (10 * f) cl (100 * (f + 1))
/-- what is ahead of the f-th is kept -/
def mo_kf (f : Nat) (A A2 : Nat → Nat → Int32) : Prop := (∀ j, j < 10 * f → A2 18 j = A 18 j ∧ A2 19 j = A 19 j ∧ A2 20 j = A 20 j ∧ A2 21 j = A 21 j) ∧ (∀ j, j < 100 * f → A2 22 j = A 22 j) ∧ ∀ j, j ≠ f → A2 17 j = A 17 j
theorem mo_cs.kf {A A2 : Nat → Nat → Int32} {g f : Nat} {cl : List sp_Cl} (h : mo_cs A g cl) (hg : g < f) (hk : mo_kf f A A2) : mo_cs A2 g cl := by
  refine ⟨(hk.2.2 g (by omega)).trans h.1, h.2.1, h.2.2.kp (Nat.le_refl _) (fun j hj => hk.1 j (by have := h.2.1; omega)) (fun j hj => hk.2.1 j (by omega))⟩
theorem mo_cs.cur {I : Nat → Int32} {A : Nat → Nat → Int32} {g : Nat} {cl : List sp_Cl} (h : mo_cs A g cl) (hg : g < 6) (he : I 12 = nI g) : mo_cur I A (10 * g) cl := ⟨Or.inr ⟨g, hg, he, h.1, rfl⟩, h.2.1, h.2.2.cl (by omega)⟩
section MOP
variable {G : px_G} {D : Nat} {X E : px_H} {I : Nat → Int32} {A : Nat → Nat → Int32} {L : Nat → Nat → Int64} {Q : Option Value → px_H → Prop}
set_option maxRecDepth 4000 in
theorem l_Mo_goesText_15 {T : Nat → Nat} {n f : Nat} (hD : 6 ≤ D) (hf : f ≤ 5) (hx : mo_tx I A T n) : ∀ (q k p s0 : Nat) (cs : List sp_Cl) (I1 : Nat → Int32) (A1 : Nat → Nat → Int32), k + q = 10 → k < 10 → cs.length = k → ms [14, 15, 24, 25, 26] [17, 18, 19, 20, 21, 22, 23] I I1 A A1 → mo_kf f A A1 → mo_clb A1 (10 * f) cs s0 → 100 * f ≤ s0 → s0 ≤ 100 * f + p → p ≤ n → I1 14 = nI p → I1 24 = nI s0 → (∀ (cs2 : List sp_Cl) (p' : Nat), sp_txt T n q p = (some cs2, p') → ∀ (I2 : Nat → Int32) (A2 : Nat → Nat → Int32), ms [14, 15, 24, 25, 26] [17, 18, 19, 20, 21, 22, 23] I I2 A A2 → mo_kf f A A2 → mo_cs A2 f (cs ++ cs2) → Q (some (.int 1)) (HM X I2 A2 L E)) → (∀ p', sp_txt T n q p = (none, p') → ∀ (I2 : Nat → Int32) (A2 : Nat → Nat → Int32), ms [14, 15, 24, 25, 26] [17, 18, 19, 20, 21, 22, 23] I I2 A A2 → mo_kf f A A2 → I2 14 = nI p' → Q (some (.int 0)) (HM X I2 A2 L E)) → px_W G D 0 0 m_Mo_goesText 15 [some (.ref X.length), some (.int (nI f)), some (.int (nI k))] [] (HM X I1 A1 L E) Q := by
  intro q
  induction q with
  | zero => intro k p s0 cs I1 A1 hk hk10; omega
  | succ q ih =>
    intro k p s0 cs I1 A1 hkq hk10 hcs hm1 hkf hclb h100 hle hpn h14 h24 kt kf
    have hn := hx.2.1
    have hx1 : mo_tx I1 A1 T n := hx.ms hm1 (by decide) (by decide)
    have e13 : I1 13 = nI n := hx1.1
    refine wp_aload_n d_Mo_goesText_15 rfl rfl rfl ?_
    refine wp_bipush (v := 10) d_Mo_goesText_16 (by decide) ?_
    refine wp_iload_n d_Mo_goesText_18 rfl rfl ?_
    refine wp_imul d_Mo_goesText_19 ?_
    refine wp_iload_n d_Mo_goesText_20 rfl rfl ?_
    refine wp_iadd d_Mo_goesText_21 ?_
    rw [show (10 : Int32) * nI f + nI k = nI (10 * f + k) from (congrArg (· + nI k) (pk_mul 10 f)).trans (nI_add _ _)]
    refine wp_callV (r := (R_12, T_12, 70)) (M' := m_Mo_takesClause) (as := [_]) (D' := D - 1) (C1 := 0) (C2 := 0) (S1 := 0) (S2 := 0) d_Mo_goesText_22 rfl w_1245 w_1247 w_19 hm_0 k_Mo_takesClause (Nat.le_of_ble_eq_true rfl) rfl (Nat.le_of_ble_eq_true rfl) (by omega) rfl rfl ?_
    refine c_Mo_takesClause (by omega) (n := n) (T := T) (p := p) (s0 := s0) (f := f) hf h100 hx1 (by omega) h14 hpn h24 hle (fun w d l p1 hcl I2 A2 hm2 hk2 h22 e14 e24 e18 e19 e20 => ?_) (fun p1 hcl I2 A2 hm2 hk2 h22 e14 => ?_)
    · skip
      have b1 := sp_cla_b hpn hcl
      have hm02 : ms [14, 15, 24, 25, 26] [17, 18, 19, 20, 21, 22, 23] I I2 A A2 := hm1.tr (hm2.mo (by decide) (by decide))
      have hkf2 : mo_kf f A A2 := ⟨fun j hj => by
        obtain ⟨a1, a2, a3, a4⟩ := hk2 j (by omega)
        obtain ⟨b1, b2, b3, b4⟩ := hkf.1 j hj
        exact ⟨a1.trans b1, a2.trans b2, a3.trans b3, a4.trans b4⟩, fun j hj => (h22 j (by omega)).trans (hkf.2.1 j hj), fun j hj => by rw [hm2.2 17 (by decide)]; exact hkf.2.2 j hj⟩
      refine wp_if_ne (t := 30) d_Mo_goesText_25 (by decide) (fun c_25 => ?_) (fun c_25 => (absurd c_25 (by decide)))
      refine wp_iinc (v := _ + 1) (ls' := [_, _, _]) d_Mo_goesText_30 (by decide) rfl rfl rfl ?_
      rw [show nI k + 1 = nI (k + 1) from nI_1 k]
      refine wp_aload_n d_Mo_goesText_33 rfl rfl rfl ?_
      refine gM_17 rfl d_Mo_goesText_34 ?_
      refine wp_iload_n d_Mo_goesText_37 rfl rfl ?_
      refine wp_iload_n d_Mo_goesText_38 rfl rfl ?_
      refine sM_17 d_Mo_goesText_39 (vp_in_nI (by omega) (by decide)) ?_
      rw [nI_clamp (by omega)]
      obtain ⟨A3, eA3⟩ : ∃ z, z = va_up A2 17 (upd (A2 17) f (nI (k + 1))) := ⟨_, rfl⟩
      rw [← eA3]
      have hm03 : ms [14, 15, 24, 25, 26] [17, 18, 19, 20, 21, 22, 23] I I2 A A3 := by rw [eA3]; exact hm02.a 17 (by decide) _
      have ok3 : ∀ k', k' ≠ 17 → A3 k' = A2 k' := fun k' h => by rw [eA3]; exact va_ok h
      have hkf3 : mo_kf f A A3 := ⟨fun j hj => by rw [ok3 18 (by decide), ok3 19 (by decide), ok3 20 (by decide), ok3 21 (by decide)]; exact hkf2.1 j hj, fun j hj => by rw [ok3 22 (by decide)]; exact hkf2.2.1 j hj, fun j hj => by rw [eA3]; exact (va_uo hj).trans (hkf2.2.2 j hj)⟩
      have hclb3 : mo_clb A3 (10 * f) (cs ++ [(w, d, l)]) (s0 + l.length) := hclb.push (fun j hj => by rw [ok3 18 (by decide), ok3 19 (by decide), ok3 20 (by decide), ok3 21 (by decide)]; exact hk2 j (by omega)) (fun j hj => by rw [ok3 22 (by decide)]; exact h22 j hj) (by rw [ok3 18 (by decide), hcs]; exact e18) b1.2.2.2.1 (by rw [ok3 19 (by decide), hcs]; exact e19) b1.2.2.2.2.1 (by rw [ok3 20 (by decide), ok3 21 (by decide), ok3 22 (by decide), hcs]; exact e20) b1.2.2.2.2.2.1 (by omega) b1.2.2.2.2.2.2
      have hcsl : (cs ++ [(w, d, l)]).length = k + 1 := by rw [List.length_append, hcs]; rfl
      have hcs3 : mo_cs A3 f (cs ++ [(w, d, l)]) := ⟨by rw [hcsl, eA3]; exact va_uu, by omega, hclb3.kp (by omega) (fun j hj => ⟨rfl, rfl, rfl, rfl⟩) (fun j hj => rfl)⟩
      have hx2 : mo_tx I2 A3 T n := hx.ms hm03 (by decide) (by decide)
      refine wp_aload_n d_Mo_goesText_40 rfl rfl rfl ?_
      refine gM_14 rfl d_Mo_goesText_41 ?_
      refine wp_aload_n d_Mo_goesText_44 rfl rfl rfl ?_
      refine gM_13 rfl d_Mo_goesText_45 ?_
      rw [e14, hx2.1]
      refine wp_icmp_ne (t := 53) d_Mo_goesText_48 (by decide) (fun c_48 => ?_) (fun c_48 => ?_)
      · skip
        refine wp_iload_n d_Mo_goesText_53 rfl rfl ?_
        refine wp_bipush (v := (nI 10)) d_Mo_goesText_54 (by decide) ?_
        refine wp_icmp_eq (t := 68) d_Mo_goesText_56 (by decide) (fun c_56 => ?_) (fun c_56 => ?_)
        · skip
          refine wp_iconst (v := 0) d_Mo_goesText_68 rfl ?_
          refine wp_ireturn d_Mo_goesText_69 rfl rfl ?_
          have hpn1 : ¬ p1 = n := fun z => c_48 ((nI_eq (by omega) (by omega)).mpr z)
          first
            | (have hq0 : q = 0 := by
                 have := (nI_eq (by omega) (by decide)).mp c_56
                 omega
               exact kf p1 (by simp only [sp_txt, hcl]; rw [if_neg hpn1, if_pos (Or.inl hq0)]) I2 A3 hm03 hkf3 e14)
            | exact kf p1 (by simp only [sp_txt, hcl]; rw [if_neg hpn1, if_pos (Or.inr h59)]) I2 A3 hm03 hkf3 e14
        · skip
          refine wp_aload_n d_Mo_goesText_59 rfl rfl rfl ?_
          refine wp_bipush (v := 59) d_Mo_goesText_60 (by decide) ?_
          refine wp_callV (r := (R_12, T_12, 70)) (M' := m_Mo_takes) (as := [_]) (D' := D - 1) (C1 := 0) (C2 := 0) (S1 := 0) (S2 := 0) d_Mo_goesText_62 rfl w_1261 w_1263 w_23 hm_0 k_Mo_takes (Nat.le_of_ble_eq_true rfl) rfl (Nat.le_of_ble_eq_true rfl) (by omega) rfl rfl ?_
          refine c_Mo_takes (by omega) (c := 59) hx2 e14 (by omega) (by decide) (fun h59 => ?_) (fun h59 => ?_)
          · skip
            refine wp_if_ne (t := 15) d_Mo_goesText_65 (by decide) (fun c_65 => ?_) (fun c_65 => (absurd c_65 (by decide)))
            have hpn1 : ¬ p1 = n := fun z => c_48 ((nI_eq (by omega) (by omega)).mpr z)
            have hk1 : ¬ k + 1 = 10 := fun z => c_56 ((nI_eq (by omega) (by decide)).mpr z)
            have hq0 : ¬ (q = 0 ∨ ¬ sp_is T n p1 59) := fun z => z.elim (fun z => by omega) (fun z => z h59)
            refine ih (k + 1) (p1 + 1) (s0 + l.length) (cs ++ [(w, d, l)]) (upd I2 14 (nI (p1 + 1))) A3 (by omega) (by omega) hcsl (hm03.i 14 (by decide) _) hkf3 hclb3 (by omega) (by omega) h59.1 rfl e24 (fun cs2 p' h I4 A4 m4 k4 c4 => ?_) (fun p' h I4 A4 m4 k4 e4 => ?_)
            · rw [List.append_assoc] at c4
              exact kt ((w, d, l) :: cs2) p' (by simp only [sp_txt, hcl]; rw [if_neg hpn1, if_neg hq0]; simp only [h]) I4 A4 m4 k4 c4
            · exact kf p' (by simp only [sp_txt, hcl]; rw [if_neg hpn1, if_neg hq0]; simp only [h]) I4 A4 m4 k4 e4
          · skip
            refine wp_if_ne (t := 15) d_Mo_goesText_65 (by decide) (fun c_65 => (absurd c_65 (by decide))) (fun c_65 => ?_)
            refine wp_iconst (v := 0) d_Mo_goesText_68 rfl ?_
            refine wp_ireturn d_Mo_goesText_69 rfl rfl ?_
            have hpn1 : ¬ p1 = n := fun z => c_48 ((nI_eq (by omega) (by omega)).mpr z)
            first
              | (have hq0 : q = 0 := by
                   have := (nI_eq (by omega) (by decide)).mp c_56
                   omega
                 exact kf p1 (by simp only [sp_txt, hcl]; rw [if_neg hpn1, if_pos (Or.inl hq0)]) I2 A3 hm03 hkf3 e14)
              | exact kf p1 (by simp only [sp_txt, hcl]; rw [if_neg hpn1, if_pos (Or.inr h59)]) I2 A3 hm03 hkf3 e14
      · skip
        refine wp_iconst (v := 1) d_Mo_goesText_51 rfl ?_
        refine wp_ireturn d_Mo_goesText_52 rfl rfl ?_
        have hpn1 : p1 = n := (nI_eq (by omega) (by omega)).mp c_48
        exact kt [(w, d, l)] p1 (by simp only [sp_txt, hcl]; rw [if_pos hpn1]) I2 A3 hm03 hkf3 hcs3
    · skip
      have hm02 : ms [14, 15, 24, 25, 26] [17, 18, 19, 20, 21, 22, 23] I I2 A A2 := hm1.tr (hm2.mo (by decide) (by decide))
      have hkf2 : mo_kf f A A2 := ⟨fun j hj => by
        obtain ⟨a1, a2, a3, a4⟩ := hk2 j (by omega)
        obtain ⟨b1, b2, b3, b4⟩ := hkf.1 j hj
        exact ⟨a1.trans b1, a2.trans b2, a3.trans b3, a4.trans b4⟩, fun j hj => (h22 j (by omega)).trans (hkf.2.1 j hj), fun j hj => by rw [hm2.2 17 (by decide)]; exact hkf.2.2 j hj⟩
      refine wp_if_ne (t := 30) d_Mo_goesText_25 (by decide) (fun c_25 => (absurd c_25 (by decide))) (fun c_25 => ?_)
      refine wp_iconst (v := 0) d_Mo_goesText_28 rfl ?_
      refine wp_ireturn d_Mo_goesText_29 rfl rfl ?_
      exact kf p1 (by simp only [sp_txt, hcl]) I2 A2 hm02 hkf2 e14
set_option maxRecDepth 4000 in
theorem c_Mo_goesText {T : Nat → Nat} {n f : Nat} (hD : 6 ≤ D) (hf : f ≤ 5) (hx : mo_tx I A T n) (kt : ∀ (cs2 : List sp_Cl) (p' : Nat), sp_txt T n 10 0 = (some cs2, p') → ∀ (I2 : Nat → Int32) (A2 : Nat → Nat → Int32), ms [14, 15, 24, 25, 26] [17, 18, 19, 20, 21, 22, 23] I I2 A A2 → mo_kf f A A2 → mo_cs A2 f (cs2) → Q (some (.int 1)) (HM X I2 A2 L E)) (kf : ∀ p', sp_txt T n 10 0 = (none, p') → ∀ (I2 : Nat → Int32) (A2 : Nat → Nat → Int32), ms [14, 15, 24, 25, 26] [17, 18, 19, 20, 21, 22, 23] I I2 A A2 → mo_kf f A A2 → I2 14 = nI p' → Q (some (.int 0)) (HM X I2 A2 L E)) : px_W G D 0 0 m_Mo_goesText 0 (px_ent 3 [.ref X.length, .int (nI f)]) [] (HM X I A L E) Q := by
  show px_W _ _ _ _ _ _ [some (.ref X.length), some (.int (nI f)), none] [] _ _
  refine wp_aload_n d_Mo_goesText_0 rfl rfl rfl ?_
  refine wp_iconst (v := 0) d_Mo_goesText_1 rfl ?_
  refine pM_14 rfl d_Mo_goesText_2 ?_
  refine wp_aload_n d_Mo_goesText_5 rfl rfl rfl ?_
  refine wp_bipush (v := 100) d_Mo_goesText_6 (by decide) ?_
  refine wp_iload_n d_Mo_goesText_8 rfl rfl ?_
  refine wp_imul d_Mo_goesText_9 ?_
  rw [show (100 : Int32) * nI f = nI (100 * f) from pk_mul 100 f]
  refine pM_24 rfl d_Mo_goesText_10 ?_
  refine wp_iconst (v := (nI 0)) d_Mo_goesText_13 rfl ?_
  refine wp_istore_n (ls' := [_, _, _]) d_Mo_goesText_14 rfl (by decide) rfl ?_
  exact l_Mo_goesText_15 hD hf hx 10 0 0 (100 * f) [] _ _ (by decide) (by decide) rfl ((ms.rf.i 14 (by decide) _).i 24 (by decide) _) ⟨fun _ _ => ⟨rfl, rfl, rfl, rfl⟩, fun _ _ => rfl, fun _ _ => rfl⟩ (fun j c hc => by cases hc) (Nat.le_refl _) (Nat.le_refl _) (Nat.zero_le _) rfl rfl kt kf
set_option maxRecDepth 4000 in
theorem c_Mo_scaffold {T : Nat → Nat} {n f : Nat} (hD : 7 ≤ D) (hf : f ≤ 6) (hs : I 11 = nI f) (hx : mo_tx I A T n) (kF : f = 6 → Q (some (.int (-4))) (HM X I A L E)) (kt : ∀ (cs : List sp_Cl) (p' : Nat), f < 6 → sp_txt T n 10 0 = (some cs, p') → ∀ (I2 : Nat → Int32) (A2 : Nat → Nat → Int32), ms [11, 12, 13, 14, 15, 24, 25, 26] [17, 18, 19, 20, 21, 22, 23] I I2 A A2 → mo_kf f A A2 → mo_cs A2 f cs → I2 11 = nI (f + 1) → I2 12 = nI f → I2 13 = 0 → Q (some (.int (nI f))) (HM X I2 A2 L E)) (kf : ∀ p', f < 6 → sp_txt T n 10 0 = (none, p') → ∀ (I2 : Nat → Int32) (A2 : Nat → Nat → Int32), ms [11, 12, 13, 14, 15, 24, 25, 26] [17, 18, 19, 20, 21, 22, 23] I I2 A A2 → mo_kf f A A2 → I2 13 = 0 → I2 11 = nI f → I2 12 = I 12 → Q (some (.int (-10 - nI p'))) (HM X I2 A2 L E)) : px_W G D 0 0 m_Mo_scaffold 0 (px_ent 2 [.ref X.length]) [] (HM X I A L E) Q := by
  show px_W _ _ _ _ _ _ [some (.ref X.length), none] [] _ _
  refine wp_aload_n d_Mo_scaffold_0 rfl rfl rfl ?_
  refine gM_11 rfl d_Mo_scaffold_1 ?_
  refine wp_bipush (v := (nI 6)) d_Mo_scaffold_4 (by decide) ?_
  rw [hs]
  refine wp_icmp_ne (t := 12) d_Mo_scaffold_6 (by decide) (fun c_6 => ?_) (fun c_6 => ?_)
  · skip
    refine wp_aload_n d_Mo_scaffold_12 rfl rfl rfl ?_
    refine wp_aload_n d_Mo_scaffold_13 rfl rfl rfl ?_
    refine gM_11 rfl d_Mo_scaffold_14 ?_
    rw [hs]
    refine wp_callV (r := (R_12, T_12, 70)) (M' := m_Mo_goesText) (as := [_]) (D' := D - 1) (C1 := 0) (C2 := 0) (S1 := 0) (S2 := 0) d_Mo_scaffold_17 rfl w_1241 w_1243 w_18 hm_0 k_Mo_goesText (Nat.le_of_ble_eq_true rfl) rfl (Nat.le_of_ble_eq_true rfl) (by omega) rfl rfl ?_
    refine c_Mo_goesText (by omega) (n := n) (T := T) (f := f) (by have h6 : ¬ f = 6 := fun z => c_6 ((nI_eq (by omega) (by decide)).mpr z); omega) hx (fun cs p' ht I2 A2 hm hk hc => ?_) (fun p' ht I2 A2 hm hk e14 => ?_)
    · skip
      have h6 : ¬ f = 6 := fun z => c_6 ((nI_eq (by omega) (by decide)).mpr z)
      refine wp_istore_n (ls' := [_, _]) d_Mo_scaffold_20 rfl (by decide) rfl ?_
      refine wp_aload_n d_Mo_scaffold_21 rfl rfl rfl ?_
      refine wp_iconst (v := 0) d_Mo_scaffold_22 rfl ?_
      refine pM_13 rfl d_Mo_scaffold_23 ?_
      refine wp_iload_n d_Mo_scaffold_26 rfl rfl ?_
      refine wp_if_ne (t := 38) d_Mo_scaffold_27 (by decide) (fun c_27 => ?_) (fun c_27 => (absurd c_27 (by decide)))
      refine wp_aload_n d_Mo_scaffold_38 rfl rfl rfl ?_
      refine wp_aload_n d_Mo_scaffold_39 rfl rfl rfl ?_
      refine gM_11 rfl d_Mo_scaffold_40 ?_
      refine pM_12 rfl d_Mo_scaffold_43 ?_
      refine wp_aload_n d_Mo_scaffold_46 rfl rfl rfl ?_
      refine wp_dup d_Mo_scaffold_47 rfl ?_
      refine gM_11 rfl d_Mo_scaffold_48 ?_
      refine wp_iconst (v := 1) d_Mo_scaffold_51 rfl ?_
      refine wp_iadd d_Mo_scaffold_52 ?_
      refine pM_11 rfl d_Mo_scaffold_53 ?_
      refine wp_aload_n d_Mo_scaffold_56 rfl rfl rfl ?_
      refine gM_12 rfl d_Mo_scaffold_57 ?_
      refine wp_ireturn d_Mo_scaffold_60 rfl rfl ?_
      have e11 : I2 11 = nI f := (hm.1 11 (by decide)).trans hs
      have key := kt cs p' (by omega) ht (upd (upd (upd I2 13 0) 12 (I2 11)) 11 (I2 11 + 1)) A2 ((((hm.mo (by decide) (by decide)).i 13 (by decide) _).i 12 (by decide) _).i 11 (by decide) _) hk hc (by rw [show upd (upd (upd I2 13 0) 12 (I2 11)) 11 (I2 11 + 1) 11 = I2 11 + 1 from rfl, e11, nI_1]) e11 rfl
      rw [← e11] at key
      exact key
    · skip
      refine wp_istore_n (ls' := [_, _]) d_Mo_scaffold_20 rfl (by decide) rfl ?_
      refine wp_aload_n d_Mo_scaffold_21 rfl rfl rfl ?_
      refine wp_iconst (v := 0) d_Mo_scaffold_22 rfl ?_
      refine pM_13 rfl d_Mo_scaffold_23 ?_
      refine wp_iload_n d_Mo_scaffold_26 rfl rfl ?_
      refine wp_if_ne (t := 38) d_Mo_scaffold_27 (by decide) (fun c_27 => (absurd c_27 (by decide))) (fun c_27 => ?_)
      refine wp_bipush (v := (-10)) d_Mo_scaffold_30 (by decide) ?_
      refine wp_aload_n d_Mo_scaffold_32 rfl rfl rfl ?_
      refine gM_14 rfl d_Mo_scaffold_33 ?_
      refine wp_isub d_Mo_scaffold_36 ?_
      refine wp_ireturn d_Mo_scaffold_37 rfl rfl ?_
      have h6 : ¬ f = 6 := fun z => c_6 ((nI_eq (by omega) (by decide)).mpr z)
      rw [show upd I2 13 0 14 = nI p' from e14]
      exact kf p' (by omega) ht _ A2 ((hm.mo (by decide) (by decide)).i 13 (by decide) _) hk rfl ((hm.1 11 (by decide)).trans hs) (hm.1 12 (by decide))
  · skip
    refine wp_bipush (v := (-4)) d_Mo_scaffold_9 (by decide) ?_
    refine wp_ireturn d_Mo_scaffold_11 rfl rfl ?_
    exact kF ((nI_eq (by omega) (by decide)).mp c_6)
end MOP
