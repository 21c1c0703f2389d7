theorem va_uo {A : Nat → Nat → Int32} {k c j : Nat} {x : Int32} (h : j ≠ c) : va_up A k (upd (A k) c x) k j = A k j := by
  show (if k = k then upd (A k) c x else A k) j = A k j
  rw [if_pos rfl]
  exact if_neg h
theorem va_ok {A : Nat → Nat → Int32} {k k' : Nat} {f : Nat → Int32} (h : k' ≠ k) : va_up A k f k' = A k' := if_neg h
theorem va_ou {A : Nat → Nat → Int32} {k : Nat} {f : Nat → Int32} : va_up A k f k = f := if_pos rfl
theorem sp_P_d {T : Nat → Nat} {n : Nat} : ∀ (q m d p : Nat) (l : List Nat) (p' : Nat), sp_P T n q m d p = (some l, p') → ∀ (r : List Nat) (z : Nat), (m ≤ 2 → sp_dp (l ++ r) z = sp_dp r (z + 1)) ∧ (3 ≤ m → 1 ≤ z → sp_dp (l ++ r) z = sp_dp r z) := by
  intro q
  induction q with
  | zero => intro m d p l p' h; cases h
  | succ q ih =>
    intro m d p l p' h r z
    rw [sp_P] at h
    by_cases m0 : m = 0
    · rw [if_pos m0] at h
      refine ⟨fun _ => ?_, fun h3 => by omega⟩
      by_cases h33 : sp_is T n p 33
      · rw [if_pos h33] at h
        by_cases hd : 4 ≤ d
        · rw [if_pos hd] at h; cases h
        · rw [if_neg hd] at h
          cases hr : sp_P T n q 0 (d + 1) (p + 1) with
          | mk a b =>
            cases a with
            | none => simp only [hr] at h; cases h
            | some e =>
              simp only [hr] at h
              cases h
              rw [List.append_assoc, (ih 0 (d + 1) (p + 1) e p' hr ([6000] ++ r) z).1 (by decide)]
              show sp_dp (6000 :: r) (z + 1) = _
              rw [sp_dp, if_neg (by decide), if_pos rfl, if_pos (by omega)]
      · rw [if_neg h33] at h
        by_cases h40 : sp_is T n p 40
        · rw [if_pos h40] at h
          by_cases hd : 4 ≤ d
          · rw [if_pos hd] at h; cases h
          · rw [if_neg hd] at h
            cases hr : sp_P T n q 2 (d + 1) (p + 1) with
            | mk a b =>
              cases a with
              | none => simp only [hr] at h; cases h
              | some e =>
                simp only [hr] at h
                by_cases h41 : sp_is T n b 41
                · rw [if_pos h41] at h
                  cases h
                  exact (ih 2 (d + 1) (p + 1) l b hr r z).1 (by decide)
                · rw [if_neg h41] at h; cases h
        · rw [if_neg h40] at h
          cases hr : sp_test T n p with
          | mk a b =>
            cases a with
            | none => simp only [hr] at h; cases h
            | some e =>
              simp only [hr] at h
              cases h
              show sp_dp (e :: r) z = _
              rw [sp_dp, if_pos ((sp_test_b hr).1)]
    · rw [if_neg m0] at h
      by_cases m1 : m = 1
      · rw [if_pos m1] at h
        refine ⟨fun _ => ?_, fun h3 => by omega⟩
        cases hr : sp_P T n q 0 d p with
        | mk a b =>
          cases a with
          | none => simp only [hr] at h; cases h
          | some e =>
            simp only [hr] at h
            cases hr2 : sp_P T n q 3 d b with
            | mk a2 b2 =>
              cases a2 with
              | none => simp only [hr2] at h; cases h
              | some e2 =>
                simp only [hr2] at h
                cases h
                rw [List.append_assoc, (ih 0 d p e b hr (e2 ++ r) z).1 (by decide), (ih 3 d b e2 p' hr2 r (z + 1)).2 (by decide) (by omega)]
      · rw [if_neg m1] at h
        by_cases m2 : m = 2
        · rw [if_pos m2] at h
          refine ⟨fun _ => ?_, fun h3 => by omega⟩
          cases hr : sp_P T n q 1 d p with
          | mk a b =>
            cases a with
            | none => simp only [hr] at h; cases h
            | some e =>
              simp only [hr] at h
              cases hr2 : sp_P T n q 4 d b with
              | mk a2 b2 =>
                cases a2 with
                | none => simp only [hr2] at h; cases h
                | some e2 =>
                  simp only [hr2] at h
                  cases h
                  rw [List.append_assoc, (ih 1 d p e b hr (e2 ++ r) z).1 (by decide), (ih 4 d b e2 p' hr2 r (z + 1)).2 (by decide) (by omega)]
        · rw [if_neg m2] at h
          refine ⟨fun h2 => by omega, fun _ h1 => ?_⟩
          have two : ∀ (x : Nat) (r2 : List Nat), (x = 6001 ∨ x = 6002) → sp_dp (x :: r2) (z + 1) = sp_dp r2 z := fun x r2 hx => by
            rw [sp_dp]
            rcases hx with rfl | rfl
            · rw [if_neg (by decide), if_neg (by decide), if_pos (by omega)]; rfl
            · rw [if_neg (by decide), if_neg (by decide), if_pos (by omega)]; rfl
          by_cases m3 : m = 3
          · rw [if_pos m3] at h
            by_cases h38 : sp_is T n p 38
            · rw [if_pos h38] at h
              cases hr : sp_P T n q 0 d (p + 1) with
              | mk a b =>
                cases a with
                | none => simp only [hr] at h; cases h
                | some e =>
                  simp only [hr] at h
                  cases hr2 : sp_P T n q 3 d b with
                  | mk a2 b2 =>
                    cases a2 with
                    | none => simp only [hr2] at h; cases h
                    | some e2 =>
                      simp only [hr2] at h
                      cases h
                      rw [List.append_assoc, List.append_assoc, (ih 0 d (p + 1) e b hr ([6001] ++ (e2 ++ r)) z).1 (by decide)]
                      refine (two 6001 _ (Or.inl rfl)).trans ?_
                      exact (ih 3 d b e2 p' hr2 r z).2 (by decide) h1
            · rw [if_neg h38] at h; cases h; rfl
          · rw [if_neg m3] at h
            by_cases h38 : sp_is T n p 124
            · rw [if_pos h38] at h
              cases hr : sp_P T n q 1 d (p + 1) with
              | mk a b =>
                cases a with
                | none => simp only [hr] at h; cases h
                | some e =>
                  simp only [hr] at h
                  cases hr2 : sp_P T n q 4 d b with
                  | mk a2 b2 =>
                    cases a2 with
                    | none => simp only [hr2] at h; cases h
                    | some e2 =>
                      simp only [hr2] at h
                      cases h
                      rw [List.append_assoc, List.append_assoc, (ih 1 d (p + 1) e b hr ([6002] ++ (e2 ++ r)) z).1 (by decide)]
                      refine (two 6002 _ (Or.inr rfl)).trans ?_
                      exact (ih 4 d b e2 p' hr2 r z).2 (by decide) h1
            · rw [if_neg h38] at h; cases h; rfl
theorem sp_E_d {T : Nat → Nat} {n p p' : Nat} {l : List Nat} (hp : p ≤ n) (h : sp_E T n p = (some l, p')) : p ≤ p' ∧ p' ≤ n ∧ l.length + p ≤ p' ∧ (∀ t, t ∈ l → t ≤ 6002) ∧ sp_dp l 0 = some 1 := by
  obtain ⟨h1, h2, h3, h4⟩ := sp_P_b 403 2 0 p l p' hp h
  have h5 := (sp_P_d 403 2 0 p l p' h [] 0).1 (by decide)
  rw [List.append_nil] at h5
  exact ⟨h1, h2, h3, h4, h5⟩
theorem sp_cla_b {T : Nat → Nat} {n p w d p' : Nat} {l : List Nat} (hp : p ≤ n) (h : sp_cla T n p = (some (w, d, l), p')) : p ≤ p' ∧ p' ≤ n ∧ l.length + p ≤ p' ∧ w ≤ 4 ∧ d < 100 ∧ (w ≤ 1 → sp_dp l 0 = some 1) ∧ ∀ t, t ∈ l → t ≤ 6002 := by
  unfold sp_cla at h
  cases hh : sp_hd T n p with
  | mk b p1 =>
    cases b with
    | false => simp only [hh] at h; cases h
    | true =>
      simp only [hh] at h
      have b1 := sp_tw_b hp hh
      cases hn : sp_num T n p1 with
      | mk a p2 =>
        cases a with
        | none => simp only [hn] at h; cases h
        | some d2 =>
          simp only [hn] at h
          have b2 := sp_num_b hn
          by_cases h2 : 2 ≤ sp_wd T n p
          · rw [if_pos h2] at h
            cases h
            exact ⟨by omega, by omega, by simp only [List.length_nil]; omega, sp_wd_4, b2.1, fun z => by omega, fun t ht => by cases ht⟩
          · rw [if_neg h2] at h
            by_cases h32 : sp_is T n p2 32
            · rw [if_pos h32] at h
              cases he : sp_E T n (p2 + 1) with
              | mk a3 p3 =>
                cases a3 with
                | none => simp only [he] at h; cases h
                | some l3 =>
                  simp only [he] at h
                  cases h
                  have b3 := sp_E_d h32.1 he
                  exact ⟨by omega, by omega, by omega, sp_wd_4, b2.1, fun _ => b3.2.2.2.2, b3.2.2.2.1⟩
            · rw [if_neg h32] at h; cases h
section MOO
variable {G : px_G} {D : Nat} {X E : px_H} {I : Nat → Int32} {A : Nat → Nat → Int32} {L : Nat → Nat → Int64} {Q : Option Value → px_H → Prop}
set_option maxRecDepth 4000 in
theorem c_Mo_takesClause {T : Nat → Nat} {n p s0 c f : Nat} (hD : 5 ≤ D) (hf : f ≤ 5) (hs0 : 100 * f ≤ s0) (hx : mo_tx I A T n) (hc : c < 60) (hp : I 14 = nI p) (hpn : p ≤ n) (hs : I 24 = nI s0) (hle : s0 ≤ 100 * f + p) (kt : ∀ (w d : Nat) (l : List Nat) (p' : Nat), sp_cla T n p = (some (w, d, l), p') → ∀ (I2 : Nat → Int32) (A2 : Nat → Nat → Int32), ms [14, 15, 24, 25, 26] [18, 19, 20, 21, 22, 23] I I2 A A2 → (∀ j, j ≠ c → A2 18 j = A 18 j ∧ A2 19 j = A 19 j ∧ A2 20 j = A 20 j ∧ A2 21 j = A 21 j) → (∀ j, j < s0 → A2 22 j = A 22 j) → I2 14 = nI p' → I2 24 = nI (s0 + l.length) → A2 18 c = nI w → A2 19 c = nI d → (w ≤ 1 → A2 20 c = nI s0 ∧ A2 21 c = nI (s0 + l.length) ∧ ∀ i t, l[i]? = some t → A2 22 (s0 + i) = mo_enc t) → Q (some (.int 1)) (HM X I2 A2 L E)) (kf : ∀ p', sp_cla T n p = (none, p') → ∀ (I2 : Nat → Int32) (A2 : Nat → Nat → Int32), ms [14, 15, 24, 25, 26] [18, 19, 20, 21, 22, 23] I I2 A A2 → (∀ j, j ≠ c → A2 18 j = A 18 j ∧ A2 19 j = A 19 j ∧ A2 20 j = A 20 j ∧ A2 21 j = A 21 j) → (∀ j, j < s0 → A2 22 j = A 22 j) → I2 14 = nI p' → Q (some (.int 0)) (HM X I2 A2 L E)) : px_W G D 0 0 m_Mo_takesClause 0 (px_ent 2 [.ref X.length, .int (nI c)]) [] (HM X I A L E) Q := by
  have hn := hx.2.1
  show px_W _ _ _ _ _ _ [some (.ref X.length), some (.int (nI c))] [] _ _
  refine wp_aload_n d_Mo_takesClause_0 rfl rfl rfl ?_
  refine wp_iload_n d_Mo_takesClause_1 rfl rfl ?_
  refine wp_callV (r := (R_12, T_12, 70)) (M' := m_Mo_takesHead) (as := [_]) (D' := D - 1) (C1 := 0) (C2 := 0) (S1 := 0) (S2 := 0) d_Mo_takesClause_2 rfl w_1249 w_1251 w_20 hm_0 k_Mo_takesHead (Nat.le_of_ble_eq_true rfl) rfl (Nat.le_of_ble_eq_true rfl) (by omega) rfl rfl ?_
  refine c_Mo_takesHead (by omega) hx hp hpn hc (fun p1 hh I1 hm1 e14 => ?_) (fun p1 hh I1 hm1 e14 => ?_)
  · skip
    have b1 := sp_tw_b hpn hh
    obtain ⟨A1, eA1⟩ : ∃ z, z = va_up A 18 (upd (A 18) c (nI (sp_wd T n p))) := ⟨_, rfl⟩
    rw [← eA1]
    rw [← eA1] at hm1
    have hA18 : A1 18 c = nI (sp_wd T n p) := by rw [eA1]; exact va_uu
    have hm01 : ms [14, 15, 24, 25, 26] [18, 19, 20, 21, 22, 23] I I1 A A1 := by rw [eA1] at hm1 ⊢; exact ((ms.rf (SI := [14, 15, 24, 25, 26]) (SA := [18, 19, 20, 21, 22, 23])).a 18 (by decide) _).tr (hm1.mo (by decide) (by decide))
    have hx1 : mo_tx I1 A1 T n := hx.ms hm01 (by decide) (by decide)
    have hk1 : ∀ j, j ≠ c → A1 18 j = A 18 j ∧ A1 19 j = A 19 j ∧ A1 20 j = A 20 j ∧ A1 21 j = A 21 j := fun j hj => by rw [eA1]; exact ⟨va_uo hj, congrFun (va_ok (by decide)) j, congrFun (va_ok (by decide)) j, congrFun (va_ok (by decide)) j⟩
    have h22 : ∀ j, j < s0 → A1 22 j = A 22 j := fun j _ => by rw [eA1]; exact congrFun (va_ok (by decide)) j
    refine wp_if_eq (t := 15) d_Mo_takesClause_5 (by decide) (fun c_5 => (absurd c_5 (by decide))) (fun c_5 => ?_)
    refine wp_aload_n d_Mo_takesClause_8 rfl rfl rfl ?_
    refine wp_callV (r := (R_12, T_12, 70)) (M' := m_Mo_takesNumber) (as := []) (D' := D - 1) (C1 := 0) (C2 := 0) (S1 := 0) (S2 := 0) d_Mo_takesClause_9 rfl w_1269 w_1271 w_25 hm_0 k_Mo_takesNumber (Nat.le_of_ble_eq_true rfl) rfl (Nat.le_of_ble_eq_true rfl) (by omega) rfl rfl ?_
    refine c_Mo_takesNumber (by omega) hx1 e14 (by omega) (fun d p2 hd I2 hm2 e14' e15 => ?_) (fun hnd => ?_)
    · skip
      have b2 := sp_num_b hd
      refine wp_if_ne (t := 17) d_Mo_takesClause_12 (by decide) (fun c_12 => ?_) (fun c_12 => (absurd c_12 (by decide)))
      refine wp_aload_n d_Mo_takesClause_17 rfl rfl rfl ?_
      refine gM_19 rfl d_Mo_takesClause_18 ?_
      refine wp_iload_n d_Mo_takesClause_21 rfl rfl ?_
      refine wp_aload_n d_Mo_takesClause_22 rfl rfl rfl ?_
      refine gM_15 rfl d_Mo_takesClause_23 ?_
      rw [e15]
      refine sM_19 d_Mo_takesClause_26 (vp_in_nI hc (by decide)) ?_
      rw [nI_clamp (by omega)]
      obtain ⟨A2, eA2⟩ : ∃ z, z = va_up A1 19 (upd (A1 19) c (nI d)) := ⟨_, rfl⟩
      rw [← eA2]
      have hm02 : ms [14, 15, 24, 25, 26] [18, 19, 20, 21, 22, 23] I I2 A A2 := by rw [eA2]; exact (hm01.tr (hm2.mo (by decide) (by decide))).a 19 (by decide) _
      have hx2 : mo_tx I2 A2 T n := hx.ms hm02 (by decide) (by decide)
      have e24 : I2 24 = nI s0 := by rw [hm2.1 24 (by decide), hm1.1 24 (by decide)]; exact hs
      have hk2 : ∀ j, j ≠ c → A2 18 j = A 18 j ∧ A2 19 j = A 19 j ∧ A2 20 j = A 20 j ∧ A2 21 j = A 21 j := fun j hj => by rw [eA2]; exact ⟨(congrFun (va_ok (by decide)) j).trans (hk1 j hj).1, (va_uo hj).trans (hk1 j hj).2.1, (congrFun (va_ok (by decide)) j).trans (hk1 j hj).2.2.1, (congrFun (va_ok (by decide)) j).trans (hk1 j hj).2.2.2⟩
      have h222 : ∀ j, j < s0 → A2 22 j = A 22 j := fun j hj => by rw [eA2]; exact (congrFun (va_ok (by decide)) j).trans (h22 j hj)
      have e18c : A2 18 c = nI (sp_wd T n p) := by rw [eA2]; exact (congrFun (va_ok (by decide)) c).trans hA18
      have e19c : A2 19 c = nI d := by rw [eA2]; exact va_uu
      have hw4 : sp_wd T n p ≤ 4 := sp_wd_4
      refine wp_aload_n d_Mo_takesClause_27 rfl rfl rfl ?_
      refine gM_18 rfl d_Mo_takesClause_28 ?_
      refine wp_iload_n d_Mo_takesClause_31 rfl rfl ?_
      refine lM_18 d_Mo_takesClause_32 (vp_in_nI hc (by decide)) ?_
      rw [nI_clamp (by omega), e18c]
      refine wp_iconst (v := (nI 2)) d_Mo_takesClause_33 rfl ?_
      refine wp_icmp_ge (t := 54) d_Mo_takesClause_34 (by decide) (fun c_34 => ?_) (fun c_34 => ?_)
      · skip
        refine wp_iconst (v := 1) d_Mo_takesClause_54 rfl ?_
        refine wp_goto (t := 59) d_Mo_takesClause_55 (by decide) ?_
        refine wp_ireturn d_Mo_takesClause_59 rfl rfl ?_
        first
          | (have h2 : 2 ≤ sp_wd T n p := (nI_leI (by decide) (by omega)).mp c_34
             exact kt (sp_wd T n p) d [] p2 (by simp only [sp_cla, hh, hd]; rw [if_pos h2]) I2 A2 hm02 hk2 h222 e14' e24 e18c e19c (fun z => by omega))
          | (have h2 : ¬ 2 ≤ sp_wd T n p := fun z => c_34 ((nI_leI (by decide) (by omega)).mpr z)
             refine kt (sp_wd T n p) d l p3 (by simp only [sp_cla, hh, hd]; rw [if_neg h2, if_pos h32]; simp only [he]) I4 A4 (hm02.tr (((ms.rf (SI := [14, 15, 24, 25, 26]) (SA := [18, 19, 20, 21, 22, 23])).i 14 (by decide) _).tr (hm4.mo (by decide) (by decide)))) (fun j hj => ⟨(congrFun (hm4.2 18 (by decide)) j).trans (hk2 j hj).1, (congrFun (hm4.2 19 (by decide)) j).trans (hk2 j hj).2.1, (hk4 j hj).1.trans (hk2 j hj).2.2.1, (hk4 j hj).2.trans (hk2 j hj).2.2.2⟩) (fun j hj => (h224 j hj).trans (h222 j hj)) e144 e244 ?_ ?_ (fun _ => ⟨e20, e21, henc⟩)
             · rw [hm4.2 18 (by decide)]; exact e18c
             · rw [hm4.2 19 (by decide)]; exact e19c)
      · skip
        refine wp_aload_n d_Mo_takesClause_37 rfl rfl rfl ?_
        refine wp_bipush (v := (nI 32)) d_Mo_takesClause_38 (by decide) ?_
        refine wp_callV (r := (R_12, T_12, 70)) (M' := m_Mo_takes) (as := [_]) (D' := D - 1) (C1 := 0) (C2 := 0) (S1 := 0) (S2 := 0) d_Mo_takesClause_40 rfl w_1261 w_1263 w_23 hm_0 k_Mo_takes (Nat.le_of_ble_eq_true rfl) rfl (Nat.le_of_ble_eq_true rfl) (by omega) rfl rfl ?_
        refine c_Mo_takes (by omega) (c := 32) hx2 e14' (by omega) (by decide) (fun h32 => ?_) (fun h32 => ?_)
        · skip
          have hx3 : mo_tx (upd I2 14 (nI (p2 + 1))) A2 T n := hx2.ms ((ms.rf (SI := [14]) (SA := [])).i 14 (by decide) _) (by decide) (by decide)
          refine wp_if_eq (t := 58) d_Mo_takesClause_43 (by decide) (fun c_43 => (absurd c_43 (by decide))) (fun c_43 => ?_)
          refine wp_aload_n d_Mo_takesClause_46 rfl rfl rfl ?_
          refine wp_iload_n d_Mo_takesClause_47 rfl rfl ?_
          refine wp_callV (r := (R_12, T_12, 70)) (M' := m_Mo_takesE) (as := [_]) (D' := D - 1) (C1 := 0) (C2 := 0) (S1 := 0) (S2 := 0) d_Mo_takesClause_48 rfl w_1277 w_1279 w_27 hm_0 k_Mo_takesE (Nat.le_of_ble_eq_true rfl) rfl (Nat.le_of_ble_eq_true rfl) (by omega) rfl rfl ?_
          refine c_Mo_takesE (by omega) (n := n) (T := T) (p := p2 + 1) (s0 := s0) (f := f) hf hs0 hx3 hc rfl h32.1 (show I2 24 = nI s0 from e24) (by omega) (fun l p3 he I4 A4 hm4 hk4 h224 e144 e20 e21 e244 henc => ?_) (fun p3 he I4 A4 hm4 hk4 h224 e144 => ?_)
          · skip
            refine wp_if_eq (t := 58) d_Mo_takesClause_51 (by decide) (fun c_51 => (absurd c_51 (by decide))) (fun c_51 => ?_)
            refine wp_iconst (v := 1) d_Mo_takesClause_54 rfl ?_
            refine wp_goto (t := 59) d_Mo_takesClause_55 (by decide) ?_
            refine wp_ireturn d_Mo_takesClause_59 rfl rfl ?_
            first
              | (have h2 : 2 ≤ sp_wd T n p := (nI_leI (by decide) (by omega)).mp c_34
                 exact kt (sp_wd T n p) d [] p2 (by simp only [sp_cla, hh, hd]; rw [if_pos h2]) I2 A2 hm02 hk2 h222 e14' e24 e18c e19c (fun z => by omega))
              | (have h2 : ¬ 2 ≤ sp_wd T n p := fun z => c_34 ((nI_leI (by decide) (by omega)).mpr z)
                 refine kt (sp_wd T n p) d l p3 (by simp only [sp_cla, hh, hd]; rw [if_neg h2, if_pos h32]; simp only [he]) I4 A4 (hm02.tr (((ms.rf (SI := [14, 15, 24, 25, 26]) (SA := [18, 19, 20, 21, 22, 23])).i 14 (by decide) _).tr (hm4.mo (by decide) (by decide)))) (fun j hj => ⟨(congrFun (hm4.2 18 (by decide)) j).trans (hk2 j hj).1, (congrFun (hm4.2 19 (by decide)) j).trans (hk2 j hj).2.1, (hk4 j hj).1.trans (hk2 j hj).2.2.1, (hk4 j hj).2.trans (hk2 j hj).2.2.2⟩) (fun j hj => (h224 j hj).trans (h222 j hj)) e144 e244 ?_ ?_ (fun _ => ⟨e20, e21, henc⟩)
                 · rw [hm4.2 18 (by decide)]; exact e18c
                 · rw [hm4.2 19 (by decide)]; exact e19c)
          · skip
            refine wp_if_eq (t := 58) d_Mo_takesClause_51 (by decide) (fun c_51 => ?_) (fun c_51 => (absurd c_51 (by decide)))
            refine wp_iconst (v := 0) d_Mo_takesClause_58 rfl ?_
            refine wp_ireturn d_Mo_takesClause_59 rfl rfl ?_
            have h2 : ¬ 2 ≤ sp_wd T n p := fun z => c_34 ((nI_leI (by decide) (by omega)).mpr z)
            first
              | (exact kf p2 (by simp only [sp_cla, hh, hd]; rw [if_neg h2, if_neg h32]) I2 A2 hm02 hk2 h222 e14')
              | (exact kf p3 (by simp only [sp_cla, hh, hd]; rw [if_neg h2, if_pos h32]; simp only [he]) I4 A4 (hm02.tr (((ms.rf (SI := [14, 15, 24, 25, 26]) (SA := [18, 19, 20, 21, 22, 23])).i 14 (by decide) _).tr (hm4.mo (by decide) (by decide)))) (fun j hj => ⟨(congrFun (hm4.2 18 (by decide)) j).trans (hk2 j hj).1, (congrFun (hm4.2 19 (by decide)) j).trans (hk2 j hj).2.1, (hk4 j hj).1.trans (hk2 j hj).2.2.1, (hk4 j hj).2.trans (hk2 j hj).2.2.2⟩) (fun j hj => (h224 j hj).trans (h222 j hj)) e144)
        · skip
          refine wp_if_eq (t := 58) d_Mo_takesClause_43 (by decide) (fun c_43 => ?_) (fun c_43 => (absurd c_43 (by decide)))
          refine wp_iconst (v := 0) d_Mo_takesClause_58 rfl ?_
          refine wp_ireturn d_Mo_takesClause_59 rfl rfl ?_
          have h2 : ¬ 2 ≤ sp_wd T n p := fun z => c_34 ((nI_leI (by decide) (by omega)).mpr z)
          first
            | (exact kf p2 (by simp only [sp_cla, hh, hd]; rw [if_neg h2, if_neg h32]) I2 A2 hm02 hk2 h222 e14')
            | (exact kf p3 (by simp only [sp_cla, hh, hd]; rw [if_neg h2, if_pos h32]; simp only [he]) I4 A4 (hm02.tr (((ms.rf (SI := [14, 15, 24, 25, 26]) (SA := [18, 19, 20, 21, 22, 23])).i 14 (by decide) _).tr (hm4.mo (by decide) (by decide)))) (fun j hj => ⟨(congrFun (hm4.2 18 (by decide)) j).trans (hk2 j hj).1, (congrFun (hm4.2 19 (by decide)) j).trans (hk2 j hj).2.1, (hk4 j hj).1.trans (hk2 j hj).2.2.1, (hk4 j hj).2.trans (hk2 j hj).2.2.2⟩) (fun j hj => (h224 j hj).trans (h222 j hj)) e144)
    · skip
      have hd : sp_num T n p1 = (none, p1) := by rw [sp_num, if_neg hnd]
      refine wp_if_ne (t := 17) d_Mo_takesClause_12 (by decide) (fun c_12 => (absurd c_12 (by decide))) (fun c_12 => ?_)
      refine wp_iconst (v := 0) d_Mo_takesClause_15 rfl ?_
      refine wp_ireturn d_Mo_takesClause_16 rfl rfl ?_
      first
        | exact kf p1 (by simp only [sp_cla, hh, hd]) I1 A1 hm01 hk1 h22 e14
        | exact kf p1 (by simp only [sp_cla, hh]) I1 _ (((ms.rf (SI := [14, 15, 24, 25, 26]) (SA := [18, 19, 20, 21, 22, 23])).a 18 (by decide) _).tr (hm1.mo (by decide) (by decide))) (fun j hj => ⟨va_uo hj, congrFun (va_ok (by decide)) j, congrFun (va_ok (by decide)) j, congrFun (va_ok (by decide)) j⟩) (fun j _ => congrFun (va_ok (by decide)) j) e14
  · skip
    refine wp_if_eq (t := 15) d_Mo_takesClause_5 (by decide) (fun c_5 => ?_) (fun c_5 => (absurd c_5 (by decide)))
    refine wp_iconst (v := 0) d_Mo_takesClause_15 rfl ?_
    refine wp_ireturn d_Mo_takesClause_16 rfl rfl ?_
    first
      | exact kf p1 (by simp only [sp_cla, hh, hd]) I1 A1 hm01 hk1 h22 e14
      | exact kf p1 (by simp only [sp_cla, hh]) I1 _ (((ms.rf (SI := [14, 15, 24, 25, 26]) (SA := [18, 19, 20, 21, 22, 23])).a 18 (by decide) _).tr (hm1.mo (by decide) (by decide))) (fun j hj => ⟨va_uo hj, congrFun (va_ok (by decide)) j, congrFun (va_ok (by decide)) j, congrFun (va_ok (by decide)) j⟩) (fun j _ => congrFun (va_ok (by decide)) j) e14
end MOO
