theorem sp_ly_m {s : sp_St} {t0 b r : Int32} {j : Nat} : ∀ (q k : Nat) (z : sp_LS) (a : Nat), z.2.2.2.1 = nI a → ∃ a', a' ≤ a + q ∧ (sp_ly s t0 b r j q k z).2.2.2.1 = nI a' := by
  intro q
  induction q with
  | zero => intro k z a h; exact ⟨a, by omega, h⟩
  | succ q ih =>
    intro k z a h
    show ∃ a', a' ≤ a + (q + 1) ∧ (sp_ly s t0 b r j q (k + 1) (sp_l1 s t0 b r j k z)).2.2.2.1 = nI a'
    have h1 : ∃ a1, a1 ≤ a + 1 ∧ (sp_l1 s t0 b r j k z).2.2.2.1 = nI a1 := by
      unfold sp_l1
      cases (sp_throw s 2000000000 z.1 z.2.1 z.2.2.1).1 with
      | none => exact ⟨a + 1, by omega, by show z.2.2.2.1 + 1 = nI (a + 1); rw [h, nI_1]⟩
      | some m => exact ⟨a, by omega, h⟩
    obtain ⟨a1, h2, h3⟩ := h1
    obtain ⟨a2, h4, h5⟩ := ih (k + 1) _ a1 h3
    exact ⟨a2, by omega, h5⟩
theorem sp_many_n (s : sp_St) (t0 : Int32) (held free : Nat → Int32) (n : Nat) (b r : Int32) (j : Nat) : ∃ a, a ≤ n ∧ sp_many s t0 held free n b r j = nI a := by
  obtain ⟨a, h1, h2⟩ := sp_ly_m (s := s) (t0 := t0) (b := b) (r := r) (j := j) n 0 (t0, held, free, 0, 0, 0, fun _ => 0) 0 rfl
  exact ⟨a, by omega, h2⟩
theorem sp_sum_n {g : Int32 → Int32} {N : Nat} (hg : ∀ b, ∃ a, a ≤ N ∧ g b = nI a) : ∀ (q b : Nat) (z : Int32) (a : Nat), z = nI a → ∃ a', a' ≤ a + q * N ∧ sp_sum g q b z = nI a' := by
  intro q
  induction q with
  | zero => intro b z a h; exact ⟨a, by omega, h⟩
  | succ q ih =>
    intro b z a h
    obtain ⟨c, hc, he⟩ := hg (nI b)
    obtain ⟨a', h1, h2⟩ := ih (b + 1) (z + g (nI b)) (a + c) (by rw [h, he, nI_add])
    exact ⟨a', by rw [Nat.succ_mul]; omega, h2⟩
theorem sp_good_n {g : Nat → Int32} {n : Int32} : ∀ (q m : Nat) (z : Int32) (a : Nat), z = nI a → ∃ a', a' ≤ a + q ∧ sp_good g n q m z = nI a' := by
  intro q
  induction q with
  | zero => intro b z a h; exact ⟨a, by omega, h⟩
  | succ q ih =>
    intro m z a h
    by_cases hc : g m = n
    · obtain ⟨a', h1, h2⟩ := ih (m + 1) (z + 1) (a + 1) (by rw [h, nI_1])
      exact ⟨a', by omega, by rw [sp_good, if_pos hc]; exact h2⟩
    · obtain ⟨a', h1, h2⟩ := ih (m + 1) (z + 0) a (by rw [h, Int32.add_zero])
      exact ⟨a', by omega, by rw [sp_good, if_neg hc]; exact h2⟩
def sp_low (p q : Nat) (x : Int32) : Int64 := if x = 0 then (nI (p / Nat.gcd p q)).toInt64 else (nI (q / Nat.gcd p q)).toInt64
theorem ms.un40 {SI SA : List Nat} {I1 I2 : Nat → Int32} {A1 A2 : Nat → Nat → Int32} {m : Nat} (hm : ms SI SA I1 I2 (va_up A1 7 (up40 (A1 7) m)) A2) (h7 : 7 ∉ SA) : ms SI SA I1 I2 A1 (va_up A2 7 (upd (A2 7) m (A2 7 m - 40))) := by
  refine ⟨hm.1, fun k hk => ?_⟩
  have e7 : A2 7 = up40 (A1 7) m := hm.2 7 h7
  show (if k = 7 then upd (A2 7) m (A2 7 m - 40) else A2 k) = A1 k
  by_cases h : k = 7
  · rw [if_pos h, h, e7]
    exact up40_b
  · rw [if_neg h, hm.2 k hk]
    exact if_neg h
section MOE
variable {G : px_G} {D : Nat} {X E : px_H} {I : Nat → Int32} {A : Nat → Nat → Int32} {L : Nat → Nat → Int64} {Q : Option Value → px_H → Prop}
theorem c_Mo_low {p q : Nat} {x : Int32} (hD : 1 ≤ D) (hp : p < 2 ^ 31) (hq : q < 2 ^ 31) (hq0 : 0 < q) (k : Q (some (.long (sp_low p q x))) (HM X I A L E)) : px_W G D 0 0 m_Mo_lowest 0 (px_ent 5 [.ref X.length, .int (nI p), .int (nI q), .int x]) [] (HM X I A L E) Q :=
  c_Mo_lowest hD hp hq hq0 (fun h => by rw [sp_low, if_pos h] at k; exact k) (fun h => by rw [sp_low, if_neg h] at k; exact k)
set_option maxRecDepth 4000 in
theorem l_Mo_mean_30 {n b : Nat} {ln : Nat → Nat} {cl : List sp_Cl} {nn : Nat} {x y : Int32} {p : Nat} (hD : 8 ≤ D) (hw : mo_w I A n ln b cl) (hh : mo_h A) (e32 : I 32 = 9999) (hn30 : nn ≤ 30) (hp : p < 2 ^ 31) : ∀ (q bb : Nat) (z : Int32) (I1 : Nat → Int32) (A1 : Nat → Nat → Int32), bb + q = 21 → sp_sum (fun z => (sp_many (A 5, A 6, A 9, ln, n, cl) (I 2) (A 7) (A 8) (nn) (z) (0) (0))) q bb z = nI p → ms [29, 30, 31, 33, 36, 37, 38] [28, 34, 35, 39] I I1 A A1 → (∀ (I' : Nat → Int32) (A' : Nat → Nat → Int32), ms [29, 30, 31, 33, 36, 37, 38] [28, 34, 35, 39] I I' A A' → Q (some (.long (sp_low p 20 y))) (HM X I' A' L E)) → px_W G D 0 0 m_Mo_mean 30 [some (.ref X.length), some (.int (nI nn)), some (.int y), some (.int z), some (.int (nI bb))] [] (HM X I1 A1 L E) Q := by
  intro q
  induction q with
  | zero =>
    intro bb z I1 A1 hb hz hm hq
    have hb2 : bb = 21 := by omega
    subst hb2
    have hz2 : z = nI p := hz
    subst hz2
    refine wp_iload d_Mo_mean_30 rfl ?_
    refine wp_bipush (v := 21) d_Mo_mean_32 (by decide) ?_
    refine wp_icmp_ge (t := 53) d_Mo_mean_34 (by decide) (fun c_34 => ?_) (fun c_34 => absurd (by decide) c_34)
    refine wp_aload_n d_Mo_mean_53 rfl rfl rfl ?_
    refine wp_iload_n d_Mo_mean_54 rfl rfl ?_
    refine wp_bipush (v := (nI 20)) d_Mo_mean_55 (by decide) ?_
    refine wp_iload_n d_Mo_mean_57 rfl rfl ?_
    refine wp_callV (r := (R_12, T_12, 70)) (M' := m_Mo_lowest) (as := [_, _, _]) (D' := D - 1) (C1 := 0) (C2 := 0) (S1 := 0) (S2 := 0) d_Mo_mean_58 rfl w_1483 w_1485 w_60 hm_0 k_Mo_lowest (Nat.le_of_ble_eq_true rfl) rfl (Nat.le_of_ble_eq_true rfl) (by omega) rfl rfl ?_
    refine c_Mo_low (by omega) (p := p) (q := 20) hp (by decide) (by decide) ?_
    refine wp_lreturn d_Mo_mean_61 rfl ?_
    exact hq _ _ hm
  | succ q ih =>
    intro bb z I1 A1 hb hz hm hq
    have hw1 : mo_w I1 A1 n ln b cl := hw.ms hm (by decide) (by decide)
    have hh1 : mo_h A1 := hh.ms hm (by decide)
    have e1 : I1 32 = 9999 := (hm.1 32 (by decide)).trans e32
    have a5 : A1 5 = A 5 := hm.2 5 (by decide)
    have a6 : A1 6 = A 6 := hm.2 6 (by decide)
    have a7 : A1 7 = A 7 := hm.2 7 (by decide)
    have a8 : A1 8 = A 8 := hm.2 8 (by decide)
    have a9 : A1 9 = A 9 := hm.2 9 (by decide)
    have i2 : I1 2 = I 2 := hm.1 2 (by decide)
    have eg : sp_many (A1 5, A1 6, A1 9, ln, n, cl) (I1 2) (A1 7) (A1 8) (nn) (nI bb) (0) (0) = sp_many (A 5, A 6, A 9, ln, n, cl) (I 2) (A 7) (A 8) (nn) (nI bb) (0) (0) := by rw [a5, a6, a7, a8, a9, i2]
    refine wp_iload d_Mo_mean_30 rfl ?_
    refine wp_bipush (v := 21) d_Mo_mean_32 (by decide) ?_
    refine wp_icmp_ge (t := 53) d_Mo_mean_34 (by decide) (fun c_34 => absurd c_34 (nI_ge (b := 21) (by omega) (by decide))) (fun c_34 => ?_)
    refine wp_iload_n d_Mo_mean_37 rfl rfl ?_
    refine wp_aload_n d_Mo_mean_38 rfl rfl rfl ?_
    refine wp_iload_n d_Mo_mean_39 rfl rfl ?_
    refine wp_iload d_Mo_mean_40 rfl ?_
    refine wp_callV (r := (R_12, T_12, 70)) (M' := m_Mo_upBy) (as := [_, _]) (D' := D - 1) (C1 := 0) (C2 := 0) (S1 := 0) (S2 := 0) d_Mo_mean_42 rfl w_1407 w_1409 w_53 hm_0 k_Mo_upBy (Nat.le_of_ble_eq_true rfl) rfl (Nat.le_of_ble_eq_true rfl) (by omega) rfl rfl ?_
    refine c_Mo_upBy (by omega) (nn := nn) hw1 hh1 e1 hn30 (fun I2 A2 hm2 g37 g38 g39 => ?_)
    rw [eg]
    refine wp_iadd d_Mo_mean_45 ?_
    refine wp_istore_n (ls' := [_, _, _, _, _]) d_Mo_mean_46 rfl (by decide) rfl ?_
    refine wp_iinc (v := _ + 1) (ls' := [_, _, _, _, _]) d_Mo_mean_47 (by decide) rfl rfl rfl ?_
    refine wp_goto (t := 30) d_Mo_mean_50 (by decide) ?_
    rw [show nI bb + 1 = nI (bb + 1) from nI_1 bb]
    exact ih (bb + 1) _ _ _ (by omega) hz (hm.tr hm2) hq
set_option maxRecDepth 4000 in
theorem c_Mo_mean {n b : Nat} {ln : Nat → Nat} {cl : List sp_Cl} {x y : Int32} (hD : 8 ≤ D) (hw : mo_w I A n ln b cl) (hh : mo_h A) (e32 : I 32 = 9999) (kb : ¬ ((1 ≤ x ∧ x ≤ 20) ∧ (0 ≤ y ∧ y ≤ 1)) → Q (some (.long (-9223372036854775808))) (HM X I A L E)) (kk : ((1 ≤ x ∧ x ≤ 20) ∧ (0 ≤ y ∧ y ≤ 1)) → ∀ nn, nn ≤ 20 → x = nI nn → ∀ p, p ≤ 400 → sp_sum (fun z => (sp_many (A 5, A 6, A 9, ln, n, cl) (I 2) (A 7) (A 8) (nn) (z) (0) (0))) 20 1 0 = nI p → ∀ (I' : Nat → Int32) (A' : Nat → Nat → Int32), ms [29, 30, 31, 33, 36, 37, 38] [28, 34, 35, 39] I I' A A' → Q (some (.long (sp_low p 20 y))) (HM X I' A' L E)) : px_W G D 0 0 m_Mo_mean 0 (px_ent 5 [.ref X.length, .int x, .int y]) [] (HM X I A L E) Q := by
  show px_W _ _ _ _ _ _ [some (.ref X.length), some (.int x), some (.int y), none, none] [] _ _
  refine wp_aload_n d_Mo_mean_0 rfl rfl rfl ?_
  refine wp_iload_n d_Mo_mean_1 rfl rfl ?_
  refine wp_iconst (v := 1) d_Mo_mean_2 rfl ?_
  refine wp_bipush (v := 20) d_Mo_mean_3 (by decide) ?_
  refine wp_callV (r := (R_12, T_12, 70)) (M' := m_Mo_in) (as := [_, _, _]) (D' := D - 1) (C1 := 0) (C2 := 0) (S1 := 0) (S2 := 0) d_Mo_mean_5 rfl w_1209 w_1211 w_15 hm_0 k_Mo_in (Nat.le_of_ble_eq_true rfl) rfl (Nat.le_of_ble_eq_true rfl) (by omega) rfl rfl ?_
  refine c_Mo_in (by omega)  (fun c_5 => ?_) (fun c_5 => ?_)
  · skip
    refine wp_if_eq (t := 21) d_Mo_mean_8 (by decide) (fun c_8 => (absurd c_8 (by decide))) (fun c_8 => ?_)
    refine wp_aload_n d_Mo_mean_11 rfl rfl rfl ?_
    refine wp_iload_n d_Mo_mean_12 rfl rfl ?_
    refine wp_iconst (v := 0) d_Mo_mean_13 rfl ?_
    refine wp_iconst (v := 1) d_Mo_mean_14 rfl ?_
    refine wp_callV (r := (R_12, T_12, 70)) (M' := m_Mo_in) (as := [_, _, _]) (D' := D - 1) (C1 := 0) (C2 := 0) (S1 := 0) (S2 := 0) d_Mo_mean_15 rfl w_1209 w_1211 w_15 hm_0 k_Mo_in (Nat.le_of_ble_eq_true rfl) rfl (Nat.le_of_ble_eq_true rfl) (by omega) rfl rfl ?_
    refine c_Mo_in (by omega)  (fun c_15 => ?_) (fun c_15 => ?_)
    · skip
      refine wp_if_ne (t := 25) d_Mo_mean_18 (by decide) (fun c_18 => ?_) (fun c_18 => (absurd c_18 (by decide)))
      obtain ⟨nn, hnn, rfl⟩ := sp_n1 (N := 20) rfl c_5
      refine wp_iconst (v := 0) d_Mo_mean_25 rfl ?_
      refine wp_istore_n (ls' := [_, _, _, _, _]) d_Mo_mean_26 rfl (by decide) rfl ?_
      refine wp_iconst (v := 1) d_Mo_mean_27 rfl ?_
      refine wp_istore (ls' := [_, _, _, _, _]) d_Mo_mean_28 (by decide) rfl ?_
      obtain ⟨p, hp1, hp2⟩ := sp_sum_n (g := (fun z => (sp_many (A 5, A 6, A 9, ln, n, cl) (I 2) (A 7) (A 8) (nn) (z) (0) (0)))) (N := nn) (fun b => sp_many_n _ _ _ _ _ _ _ _) 20 1 0 0 rfl
      exact l_Mo_mean_30 (x := 0) (by omega) hw hh e32 (by omega) (p := p) (by omega) 20 1 0 I A (by omega) hp2 ms.rf (kk ⟨c_5, c_15⟩ nn hnn rfl p (by omega) hp2)
    · skip
      refine wp_if_ne (t := 25) d_Mo_mean_18 (by decide) (fun c_18 => (absurd c_18 (by decide))) (fun c_18 => ?_)
      refine wp_ldc2 d_Mo_mean_21 w_1482 ?_
      refine wp_lreturn d_Mo_mean_24 rfl ?_
      first | exact kb (fun z => c_5 z.1) | exact kb (fun z => c_15 z.2)
  · skip
    refine wp_if_eq (t := 21) d_Mo_mean_8 (by decide) (fun c_8 => ?_) (fun c_8 => (absurd c_8 (by decide)))
    refine wp_ldc2 d_Mo_mean_21 w_1482 ?_
    refine wp_lreturn d_Mo_mean_24 rfl ?_
    first | exact kb (fun z => c_5 z.1) | exact kb (fun z => c_15 z.2)
set_option maxRecDepth 4000 in
theorem l_Mo_odds_46 {n b : Nat} {ln : Nat → Nat} {cl : List sp_Cl} {nn : Nat} {bt y : Int32} {p : Nat} (hD : 8 ≤ D) (hw : mo_w I A n ln b cl) (hb : mo_hb A) (e32 : I 32 = 9999) (hn0 : I 0 = nI n) (hn1 : 0 < n) (hn30 : nn ≤ 30) (hp : p < 2 ^ 31) : ∀ (q m : Nat) (z : Int32) (I1 : Nat → Int32) (A1 : Nat → Nat → Int32), m + q = n → sp_good (fun m => (sp_many (A 5, A 6, A 9, ln, n, cl) (I 2) (up40 (A 7) m) (A 8) (nn) (bt) (0) (0))) (nI nn) q m z = nI p → ms [29, 30, 31, 33, 36, 37, 38] [28, 34, 35, 39] I I1 A A1 → (∀ (I' : Nat → Int32) (A' : Nat → Nat → Int32), ms [29, 30, 31, 33, 36, 37, 38] [28, 34, 35, 39] I I' A A' → Q (some (.long (sp_low p n y))) (HM X I' A' L E)) → px_W G D 0 0 m_Mo_odds 46 [some (.ref X.length), some (.int (nI nn)), some (.int bt), some (.int y), some (.int z), some (.int (nI m))] [] (HM X I1 A1 L E) Q := by
  have hn6 : n ≤ 6 := hw.1
  intro q
  induction q with
  | zero =>
    intro m z I1 A1 hbq hz hm hq
    have hb2 : m = n := by omega
    subst hb2
    have hz2 : z = nI p := hz
    subst hz2
    have i0 : I1 0 = nI m := (hm.1 0 (by decide)).trans hn0
    refine wp_iload d_Mo_odds_46 rfl ?_
    refine wp_aload_n d_Mo_odds_48 rfl rfl rfl ?_
    refine gM_0 rfl d_Mo_odds_49 ?_
    rw [i0]
    refine wp_icmp_ge (t := 105) d_Mo_odds_52 (by decide) (fun c_52 => ?_) (fun c_52 => absurd (nI_le (Nat.le_refl _) (by omega)) c_52)
    refine wp_aload_n d_Mo_odds_105 rfl rfl rfl ?_
    refine wp_iload d_Mo_odds_106 rfl ?_
    refine wp_aload_n d_Mo_odds_108 rfl rfl rfl ?_
    refine gM_0 rfl d_Mo_odds_109 ?_
    rw [i0]
    refine wp_iload_n d_Mo_odds_112 rfl rfl ?_
    refine wp_callV (r := (R_12, T_12, 70)) (M' := m_Mo_lowest) (as := [_, _, _]) (D' := D - 1) (C1 := 0) (C2 := 0) (S1 := 0) (S2 := 0) d_Mo_odds_113 rfl w_1483 w_1485 w_60 hm_0 k_Mo_lowest (Nat.le_of_ble_eq_true rfl) rfl (Nat.le_of_ble_eq_true rfl) (by omega) rfl rfl ?_
    refine c_Mo_low (by omega) (p := p) (q := m) hp (by omega) hn1 ?_
    refine wp_lreturn d_Mo_odds_116 rfl ?_
    exact hq _ _ hm
  | succ q ih =>
    intro m z I1 A1 hbq hz hm hq
    have hw1 : mo_w I1 A1 n ln b cl := hw.ms hm (by decide) (by decide)
    have e1 : I1 32 = 9999 := (hm.1 32 (by decide)).trans e32
    have a5 : A1 5 = A 5 := hm.2 5 (by decide)
    have a6 : A1 6 = A 6 := hm.2 6 (by decide)
    have a7 : A1 7 = A 7 := hm.2 7 (by decide)
    have a8 : A1 8 = A 8 := hm.2 8 (by decide)
    have a9 : A1 9 = A 9 := hm.2 9 (by decide)
    have i2 : I1 2 = I 2 := hm.1 2 (by decide)
    have i0 : I1 0 = nI n := (hm.1 0 (by decide)).trans hn0
    have ecm : (nI m).toNatClampNeg = m := nI_clamp (by omega)
    have eg : sp_many (va_up A1 7 (up40 (A1 7) m) 5, va_up A1 7 (up40 (A1 7) m) 6, va_up A1 7 (up40 (A1 7) m) 9, ln, n, cl) (I1 2) (va_up A1 7 (up40 (A1 7) m) 7) (va_up A1 7 (up40 (A1 7) m) 8) (nn) (bt) (0) (0) = sp_many (A 5, A 6, A 9, ln, n, cl) (I 2) (up40 (A 7) m) (A 8) (nn) (bt) (0) (0) := by show sp_many (A1 5, A1 6, A1 9, ln, n, cl) (I1 2) (up40 (A1 7) m) (A1 8) (nn) (bt) (0) (0) = _; rw [a5, a6, a7, a8, a9, i2]
    have hst : sp_good (fun m => (sp_many (A 5, A 6, A 9, ln, n, cl) (I 2) (up40 (A 7) m) (A 8) (nn) (bt) (0) (0))) (nI nn) (q + 1) m z = sp_good (fun m => (sp_many (A 5, A 6, A 9, ln, n, cl) (I 2) (up40 (A 7) m) (A 8) (nn) (bt) (0) (0))) (nI nn) q (m + 1) (z + (if (sp_many (A 5, A 6, A 9, ln, n, cl) (I 2) (up40 (A 7) m) (A 8) (nn) (bt) (0) (0)) = nI nn then 1 else 0)) := rfl
    rw [hst] at hz
    refine wp_iload d_Mo_odds_46 rfl ?_
    refine wp_aload_n d_Mo_odds_48 rfl rfl rfl ?_
    refine gM_0 rfl d_Mo_odds_49 ?_
    rw [i0]
    refine wp_icmp_ge (t := 105) d_Mo_odds_52 (by decide) (fun c_52 => absurd c_52 (nI_ge (by omega) (by omega))) (fun c_52 => ?_)
    refine wp_aload_n d_Mo_odds_55 rfl rfl rfl ?_
    refine gM_7 rfl d_Mo_odds_56 ?_
    refine wp_iload d_Mo_odds_59 rfl ?_
    refine wp_dup2 d_Mo_odds_61 rfl rfl ?_
    refine lM_7 d_Mo_odds_62 (vp_in_nI (by omega) (by decide)) ?_
    refine wp_bipush (v := 40) d_Mo_odds_63 (by decide) ?_
    refine wp_iadd d_Mo_odds_65 ?_
    refine sM_7 d_Mo_odds_66 (vp_in_nI (by omega) (by decide)) ?_
    rw [ecm]
    show px_W _ _ _ _ _ _ _ _ (HM X I1 (va_up A1 7 (up40 (A1 7) m)) L E) _
    have hh2 : mo_h (va_up A1 7 (up40 (A1 7) m)) := (hb.ms hm (by decide)).up
    have hw2 : mo_w I1 (va_up A1 7 (up40 (A1 7) m)) n ln b cl := hw1.ms (ms.rf (SI := []) |>.a (SA := [7]) 7 (by decide) _) (by decide) (by decide)
    
    refine wp_iload d_Mo_odds_67 rfl ?_
    refine wp_aload_n d_Mo_odds_69 rfl rfl rfl ?_
    refine wp_iload_n d_Mo_odds_70 rfl rfl ?_
    refine wp_iload_n d_Mo_odds_71 rfl rfl ?_
    refine wp_callV (r := (R_12, T_12, 70)) (M' := m_Mo_upBy) (as := [_, _]) (D' := D - 1) (C1 := 0) (C2 := 0) (S1 := 0) (S2 := 0) d_Mo_odds_72 rfl w_1407 w_1409 w_53 hm_0 k_Mo_upBy (Nat.le_of_ble_eq_true rfl) rfl (Nat.le_of_ble_eq_true rfl) (by omega) rfl rfl ?_
    refine c_Mo_upBy (by omega) (nn := nn) hw2 hh2 e1 hn30 (fun I2 A2 hm2 g37 g38 g39 => ?_)
    rw [eg]
    refine wp_iload_n d_Mo_odds_75 rfl rfl ?_
    refine wp_icmp_ne (t := 83) d_Mo_odds_76 (by decide) (fun c_76 => ?_) (fun c_76 => ?_)
    · skip
      refine wp_iconst (v := 0) d_Mo_odds_83 rfl ?_
      refine wp_iadd d_Mo_odds_84 ?_
      refine wp_istore (ls' := [_, _, _, _, _, _]) d_Mo_odds_85 (by decide) rfl ?_
      refine wp_aload_n d_Mo_odds_87 rfl rfl rfl ?_
      refine gM_7 rfl d_Mo_odds_88 ?_
      refine wp_iload d_Mo_odds_91 rfl ?_
      refine wp_dup2 d_Mo_odds_93 rfl rfl ?_
      refine lM_7 d_Mo_odds_94 (vp_in_nI (by omega) (by decide)) ?_
      refine wp_bipush (v := 40) d_Mo_odds_95 (by decide) ?_
      refine wp_isub d_Mo_odds_97 ?_
      refine sM_7 d_Mo_odds_98 (vp_in_nI (by omega) (by decide)) ?_
      refine wp_iinc (v := _ + 1) (ls' := [_, _, _, _, _, _]) d_Mo_odds_99 (by decide) rfl rfl rfl ?_
      refine wp_goto (t := 46) d_Mo_odds_102 (by decide) ?_
      rw [show nI m + 1 = nI (m + 1) from nI_1 m, ecm]
      first
        | (have hc : (sp_many (A 5, A 6, A 9, ln, n, cl) (I 2) (up40 (A 7) m) (A 8) (nn) (bt) (0) (0)) = nI nn := c_76
           rw [if_pos hc] at hz; exact ih (m + 1) _ _ _ (by omega) hz (hm.tr (hm2.un40 (by decide))) hq)
        | (have hc : ¬ (sp_many (A 5, A 6, A 9, ln, n, cl) (I 2) (up40 (A 7) m) (A 8) (nn) (bt) (0) (0)) = nI nn := c_76
           rw [if_neg hc] at hz; exact ih (m + 1) _ _ _ (by omega) hz (hm.tr (hm2.un40 (by decide))) hq)
    · skip
      refine wp_iconst (v := 1) d_Mo_odds_79 rfl ?_
      refine wp_goto (t := 84) d_Mo_odds_80 (by decide) ?_
      refine wp_iadd d_Mo_odds_84 ?_
      refine wp_istore (ls' := [_, _, _, _, _, _]) d_Mo_odds_85 (by decide) rfl ?_
      refine wp_aload_n d_Mo_odds_87 rfl rfl rfl ?_
      refine gM_7 rfl d_Mo_odds_88 ?_
      refine wp_iload d_Mo_odds_91 rfl ?_
      refine wp_dup2 d_Mo_odds_93 rfl rfl ?_
      refine lM_7 d_Mo_odds_94 (vp_in_nI (by omega) (by decide)) ?_
      refine wp_bipush (v := 40) d_Mo_odds_95 (by decide) ?_
      refine wp_isub d_Mo_odds_97 ?_
      refine sM_7 d_Mo_odds_98 (vp_in_nI (by omega) (by decide)) ?_
      refine wp_iinc (v := _ + 1) (ls' := [_, _, _, _, _, _]) d_Mo_odds_99 (by decide) rfl rfl rfl ?_
      refine wp_goto (t := 46) d_Mo_odds_102 (by decide) ?_
      rw [show nI m + 1 = nI (m + 1) from nI_1 m, ecm]
      first
        | (have hc : (sp_many (A 5, A 6, A 9, ln, n, cl) (I 2) (up40 (A 7) m) (A 8) (nn) (bt) (0) (0)) = nI nn := c_76
           rw [if_pos hc] at hz; exact ih (m + 1) _ _ _ (by omega) hz (hm.tr (hm2.un40 (by decide))) hq)
        | (have hc : ¬ (sp_many (A 5, A 6, A 9, ln, n, cl) (I 2) (up40 (A 7) m) (A 8) (nn) (bt) (0) (0)) = nI nn := c_76
           rw [if_neg hc] at hz; exact ih (m + 1) _ _ _ (by omega) hz (hm.tr (hm2.un40 (by decide))) hq)
set_option maxRecDepth 4000 in
theorem c_Mo_odds {n b : Nat} {ln : Nat → Nat} {cl : List sp_Cl} {x bt y : Int32} (hD : 8 ≤ D) (hw : mo_w I A n ln b cl) (hb : mo_hb A) (e32 : I 32 = 9999) (hn0 : I 0 = nI n) (kb : ¬ ((1 ≤ x ∧ x ≤ 20) ∧ (1 ≤ bt ∧ bt ≤ 99) ∧ (0 ≤ y ∧ y ≤ 1) ∧ ¬ I 0 = 0) → Q (some (.long (-9223372036854775808))) (HM X I A L E)) (kk : ((1 ≤ x ∧ x ≤ 20) ∧ (1 ≤ bt ∧ bt ≤ 99) ∧ (0 ≤ y ∧ y ≤ 1) ∧ ¬ I 0 = 0) → ∀ nn, nn ≤ 20 → x = nI nn → ∀ p, p ≤ 6 → sp_good (fun m => (sp_many (A 5, A 6, A 9, ln, n, cl) (I 2) (up40 (A 7) m) (A 8) (nn) (bt) (0) (0))) (nI nn) n 0 0 = nI p → ∀ (I' : Nat → Int32) (A' : Nat → Nat → Int32), ms [29, 30, 31, 33, 36, 37, 38] [28, 34, 35, 39] I I' A A' → Q (some (.long (sp_low p n y))) (HM X I' A' L E)) : px_W G D 0 0 m_Mo_odds 0 (px_ent 6 [.ref X.length, .int x, .int bt, .int y]) [] (HM X I A L E) Q := by
  show px_W _ _ _ _ _ _ [some (.ref X.length), some (.int x), some (.int bt), some (.int y), none, none] [] _ _
  refine wp_aload_n d_Mo_odds_0 rfl rfl rfl ?_
  refine wp_iload_n d_Mo_odds_1 rfl rfl ?_
  refine wp_iconst (v := 1) d_Mo_odds_2 rfl ?_
  refine wp_bipush (v := 20) d_Mo_odds_3 (by decide) ?_
  refine wp_callV (r := (R_12, T_12, 70)) (M' := m_Mo_in) (as := [_, _, _]) (D' := D - 1) (C1 := 0) (C2 := 0) (S1 := 0) (S2 := 0) d_Mo_odds_5 rfl w_1209 w_1211 w_15 hm_0 k_Mo_in (Nat.le_of_ble_eq_true rfl) rfl (Nat.le_of_ble_eq_true rfl) (by omega) rfl rfl ?_
  refine c_Mo_in (by omega)  (fun c_5 => ?_) (fun c_5 => ?_)
  · skip
    refine wp_if_eq (t := 36) d_Mo_odds_8 (by decide) (fun c_8 => (absurd c_8 (by decide))) (fun c_8 => ?_)
    refine wp_aload_n d_Mo_odds_11 rfl rfl rfl ?_
    refine wp_iload_n d_Mo_odds_12 rfl rfl ?_
    refine wp_callV (r := (R_12, T_12, 70)) (M' := m_Mo_isBeat) (as := [_]) (D' := D - 1) (C1 := 0) (C2 := 0) (S1 := 0) (S2 := 0) d_Mo_odds_13 rfl w_1361 w_1363 w_45 hm_0 k_Mo_isBeat (Nat.le_of_ble_eq_true rfl) rfl (Nat.le_of_ble_eq_true rfl) (by omega) rfl rfl ?_
    refine c_Mo_isBeat (by omega)  (fun c_13 => ?_) (fun c_13 => ?_)
    · skip
      refine wp_if_eq (t := 36) d_Mo_odds_16 (by decide) (fun c_16 => (absurd c_16 (by decide))) (fun c_16 => ?_)
      refine wp_aload_n d_Mo_odds_19 rfl rfl rfl ?_
      refine wp_iload_n d_Mo_odds_20 rfl rfl ?_
      refine wp_iconst (v := 0) d_Mo_odds_21 rfl ?_
      refine wp_iconst (v := 1) d_Mo_odds_22 rfl ?_
      refine wp_callV (r := (R_12, T_12, 70)) (M' := m_Mo_in) (as := [_, _, _]) (D' := D - 1) (C1 := 0) (C2 := 0) (S1 := 0) (S2 := 0) d_Mo_odds_23 rfl w_1209 w_1211 w_15 hm_0 k_Mo_in (Nat.le_of_ble_eq_true rfl) rfl (Nat.le_of_ble_eq_true rfl) (by omega) rfl rfl ?_
      refine c_Mo_in (by omega)  (fun c_23 => ?_) (fun c_23 => ?_)
      · skip
        refine wp_if_eq (t := 36) d_Mo_odds_26 (by decide) (fun c_26 => (absurd c_26 (by decide))) (fun c_26 => ?_)
        refine wp_aload_n d_Mo_odds_29 rfl rfl rfl ?_
        refine gM_0 rfl d_Mo_odds_30 ?_
        refine wp_if_ne (t := 40) d_Mo_odds_33 (by decide) (fun c_33 => ?_) (fun c_33 => ?_)
        · skip
          obtain ⟨nn, hnn, rfl⟩ := sp_n1 (N := 20) rfl c_5
          refine wp_iconst (v := 0) d_Mo_odds_40 rfl ?_
          refine wp_istore (ls' := [_, _, _, _, _, _]) d_Mo_odds_41 (by decide) rfl ?_
          refine wp_iconst (v := 0) d_Mo_odds_43 rfl ?_
          refine wp_istore (ls' := [_, _, _, _, _, _]) d_Mo_odds_44 (by decide) rfl ?_
          have hn1 : 0 < n := Nat.pos_of_ne_zero (fun e => c_33 (by rw [hn0, e]; rfl))
          have hn6 := hw.1
          obtain ⟨p, hp1, hp2⟩ := sp_good_n (g := (fun m => (sp_many (A 5, A 6, A 9, ln, n, cl) (I 2) (up40 (A 7) m) (A 8) (nn) (bt) (0) (0)))) (n := nI nn) n 0 0 0 rfl
          exact l_Mo_odds_46 (by omega) hw hb e32 hn0 hn1 (by omega) (p := p) (by omega) n 0 0 I A (by omega) hp2 ms.rf (kk ⟨c_5, c_13, c_23, c_33⟩ nn hnn rfl p (by omega) hp2)
        · skip
          refine wp_ldc2 d_Mo_odds_36 w_1482 ?_
          refine wp_lreturn d_Mo_odds_39 rfl ?_
          first | exact kb (fun z => c_5 z.1) | exact kb (fun z => c_13 z.2.1) | exact kb (fun z => c_23 z.2.2.1) | exact kb (fun z => z.2.2.2 c_33)
      · skip
        refine wp_if_eq (t := 36) d_Mo_odds_26 (by decide) (fun c_26 => ?_) (fun c_26 => (absurd c_26 (by decide)))
        refine wp_ldc2 d_Mo_odds_36 w_1482 ?_
        refine wp_lreturn d_Mo_odds_39 rfl ?_
        first | exact kb (fun z => c_5 z.1) | exact kb (fun z => c_13 z.2.1) | exact kb (fun z => c_23 z.2.2.1) | exact kb (fun z => z.2.2.2 c_33)
    · skip
      refine wp_if_eq (t := 36) d_Mo_odds_16 (by decide) (fun c_16 => ?_) (fun c_16 => (absurd c_16 (by decide)))
      refine wp_ldc2 d_Mo_odds_36 w_1482 ?_
      refine wp_lreturn d_Mo_odds_39 rfl ?_
      first | exact kb (fun z => c_5 z.1) | exact kb (fun z => c_13 z.2.1) | exact kb (fun z => c_23 z.2.2.1) | exact kb (fun z => z.2.2.2 c_33)
  · skip
    refine wp_if_eq (t := 36) d_Mo_odds_8 (by decide) (fun c_8 => ?_) (fun c_8 => (absurd c_8 (by decide)))
    refine wp_ldc2 d_Mo_odds_36 w_1482 ?_
    refine wp_lreturn d_Mo_odds_39 rfl ?_
    first | exact kb (fun z => c_5 z.1) | exact kb (fun z => c_13 z.2.1) | exact kb (fun z => c_23 z.2.2.1) | exact kb (fun z => z.2.2.2 c_33)
set_option maxRecDepth 4000 in
theorem l_Mo_who_45 {n b : Nat} {ln : Nat → Nat} {cl : List sp_Cl} {bt dn : Int32} (hD : 8 ≤ D) (hw : mo_w I A n ln b cl) (hb : mo_hb A) (e32 : I 32 = 9999) (hn0 : I 0 = nI n) : ∀ (q m : Nat) (z : Int32) (I1 : Nat → Int32) (A1 : Nat → Nat → Int32), m + q = n → ms [29, 30, 31, 33, 36, 37, 38] [28, 34, 35, 39] I I1 A A1 → (∀ (I' : Nat → Int32) (A' : Nat → Nat → Int32), ms [29, 30, 31, 33, 36, 37, 38] [28, 34, 35, 39] I I' A A' → Q (some (.int (sp_who (fun m => (sp_ups (A 5, A 6, A 9, ln, n, cl) (I 2) (up40 (A 7) m) (A 8) (20) (bt) (0) (0))) dn q m z))) (HM X I' A' L E)) → px_W G D 0 0 m_Mo_who 45 [some (.ref X.length), some (.int bt), some (.int dn), some (.int z), some (.int (nI m))] [] (HM X I1 A1 L E) Q := by
  have hn6 : n ≤ 6 := hw.1
  intro q
  induction q with
  | zero =>
    intro m z I1 A1 hbq hm hq
    have hb2 : m = n := by omega
    subst hb2
    have i0 : I1 0 = nI m := (hm.1 0 (by decide)).trans hn0
    refine wp_iload d_Mo_who_45 rfl ?_
    refine wp_aload_n d_Mo_who_47 rfl rfl rfl ?_
    refine gM_0 rfl d_Mo_who_48 ?_
    rw [i0]
    refine wp_icmp_ge (t := 116) d_Mo_who_51 (by decide) (fun c_51 => ?_) (fun c_51 => absurd (nI_le (Nat.le_refl _) (by omega)) c_51)
    refine wp_iload_n d_Mo_who_116 rfl rfl ?_
    refine wp_ireturn d_Mo_who_117 rfl rfl ?_
    exact hq _ _ hm
  | succ q ih =>
    intro m z I1 A1 hbq hm hq
    have hw1 : mo_w I1 A1 n ln b cl := hw.ms hm (by decide) (by decide)
    have e1 : I1 32 = 9999 := (hm.1 32 (by decide)).trans e32
    have a5 : A1 5 = A 5 := hm.2 5 (by decide)
    have a6 : A1 6 = A 6 := hm.2 6 (by decide)
    have a7 : A1 7 = A 7 := hm.2 7 (by decide)
    have a8 : A1 8 = A 8 := hm.2 8 (by decide)
    have a9 : A1 9 = A 9 := hm.2 9 (by decide)
    have i2 : I1 2 = I 2 := hm.1 2 (by decide)
    have i0 : I1 0 = nI n := (hm.1 0 (by decide)).trans hn0
    have ecm : (nI m).toNatClampNeg = m := nI_clamp (by omega)
    have eg : sp_ups (va_up A1 7 (up40 (A1 7) m) 5, va_up A1 7 (up40 (A1 7) m) 6, va_up A1 7 (up40 (A1 7) m) 9, ln, n, cl) (I1 2) (va_up A1 7 (up40 (A1 7) m) 7) (va_up A1 7 (up40 (A1 7) m) 8) (20) (bt) (0) (0) = sp_ups (A 5, A 6, A 9, ln, n, cl) (I 2) (up40 (A 7) m) (A 8) (20) (bt) (0) (0) := by show sp_ups (A1 5, A1 6, A1 9, ln, n, cl) (I1 2) (up40 (A1 7) m) (A1 8) (20) (bt) (0) (0) = _; rw [a5, a6, a7, a8, a9, i2]
    have hst : sp_who (fun m => (sp_ups (A 5, A 6, A 9, ln, n, cl) (I 2) (up40 (A 7) m) (A 8) (20) (bt) (0) (0))) dn (q + 1) m z = sp_who (fun m => (sp_ups (A 5, A 6, A 9, ln, n, cl) (I 2) (up40 (A 7) m) (A 8) (20) (bt) (0) (0))) dn q (m + 1) (z ||| (if (sp_ups (A 5, A 6, A 9, ln, n, cl) (I 2) (up40 (A 7) m) (A 8) (20) (bt) (0) (0)) ^^^ dn = 1048575 then 1 <<< (nI m &&& 31) else 0)) := rfl
    rw [hst] at hq
    refine wp_iload d_Mo_who_45 rfl ?_
    refine wp_aload_n d_Mo_who_47 rfl rfl rfl ?_
    refine gM_0 rfl d_Mo_who_48 ?_
    rw [i0]
    refine wp_icmp_ge (t := 116) d_Mo_who_51 (by decide) (fun c_51 => absurd c_51 (nI_ge (by omega) (by omega))) (fun c_51 => ?_)
    refine wp_aload_n d_Mo_who_54 rfl rfl rfl ?_
    refine gM_7 rfl d_Mo_who_55 ?_
    refine wp_iload d_Mo_who_58 rfl ?_
    refine wp_dup2 d_Mo_who_60 rfl rfl ?_
    refine lM_7 d_Mo_who_61 (vp_in_nI (by omega) (by decide)) ?_
    refine wp_bipush (v := 40) d_Mo_who_62 (by decide) ?_
    refine wp_iadd d_Mo_who_64 ?_
    refine sM_7 d_Mo_who_65 (vp_in_nI (by omega) (by decide)) ?_
    rw [ecm]
    show px_W _ _ _ _ _ _ _ _ (HM X I1 (va_up A1 7 (up40 (A1 7) m)) L E) _
    have hh2 : mo_h (va_up A1 7 (up40 (A1 7) m)) := (hb.ms hm (by decide)).up
    have hw2 : mo_w I1 (va_up A1 7 (up40 (A1 7) m)) n ln b cl := hw1.ms (ms.rf (SI := []) |>.a (SA := [7]) 7 (by decide) _) (by decide) (by decide)
    
    refine wp_aload_n d_Mo_who_66 rfl rfl rfl ?_
    refine wp_bipush (v := 20) d_Mo_who_67 (by decide) ?_
    refine wp_iload_n d_Mo_who_69 rfl rfl ?_
    refine wp_iconst (v := 0) d_Mo_who_70 rfl ?_
    refine wp_iconst (v := 0) d_Mo_who_71 rfl ?_
    refine wp_callV (r := (R_12, T_12, 70)) (M' := m_Mo_layTubes) (as := [_, _, _, _]) (D' := D - 1) (C1 := 0) (C2 := 0) (S1 := 0) (S2 := 0) d_Mo_who_72 rfl w_1382 w_1384 w_48 hm_0 k_Mo_layTubes (Nat.le_of_ble_eq_true rfl) rfl (Nat.le_of_ble_eq_true rfl) (by omega) rfl rfl ?_
    refine c_Mo_lay2 (by omega) (nn := 20) (jj := 0) hw2 hh2 e1 (by decide) (by decide) (fun I2 A2 hm2 g36 g37 g38 g39 => ?_)
    rw [eg] at g37
    refine wp_aload_n d_Mo_who_75 rfl rfl rfl ?_
    refine gM_7 rfl d_Mo_who_76 ?_
    refine wp_iload d_Mo_who_79 rfl ?_
    refine wp_dup2 d_Mo_who_81 rfl rfl ?_
    refine lM_7 d_Mo_who_82 (vp_in_nI (by omega) (by decide)) ?_
    refine wp_bipush (v := 40) d_Mo_who_83 (by decide) ?_
    refine wp_isub d_Mo_who_85 ?_
    refine sM_7 d_Mo_who_86 (vp_in_nI (by omega) (by decide)) ?_
    refine wp_iload_n d_Mo_who_87 rfl rfl ?_
    refine wp_aload_n d_Mo_who_88 rfl rfl rfl ?_
    refine gM_37 rfl d_Mo_who_89 ?_
    rw [g37]
    refine wp_iload_n d_Mo_who_92 rfl rfl ?_
    refine wp_ixor d_Mo_who_93 ?_
    refine wp_ldcw d_Mo_who_94 w_1477 ?_
    refine wp_icmp_ne (t := 107) d_Mo_who_97 (by decide) (fun c_97 => ?_) (fun c_97 => ?_)
    · skip
      refine wp_iconst (v := 0) d_Mo_who_107 rfl ?_
      refine wp_ior d_Mo_who_108 ?_
      refine wp_istore_n (ls' := [_, _, _, _, _]) d_Mo_who_109 rfl (by decide) rfl ?_
      refine wp_iinc (v := _ + 1) (ls' := [_, _, _, _, _]) d_Mo_who_110 (by decide) rfl rfl rfl ?_
      refine wp_goto (t := 45) d_Mo_who_113 (by decide) ?_
      rw [show nI m + 1 = nI (m + 1) from nI_1 m, ecm]
      first
        | (have hc : (sp_ups (A 5, A 6, A 9, ln, n, cl) (I 2) (up40 (A 7) m) (A 8) (20) (bt) (0) (0)) ^^^ dn = 1048575 := c_97
           rw [if_pos hc] at hq; exact ih (m + 1) _ _ _ (by omega) (hm.tr (hm2.un40 (by decide))) hq)
        | (have hc : ¬ (sp_ups (A 5, A 6, A 9, ln, n, cl) (I 2) (up40 (A 7) m) (A 8) (20) (bt) (0) (0)) ^^^ dn = 1048575 := c_97
           rw [if_neg hc] at hq; exact ih (m + 1) _ _ _ (by omega) (hm.tr (hm2.un40 (by decide))) hq)
    · skip
      refine wp_iconst (v := 1) d_Mo_who_100 rfl ?_
      refine wp_iload d_Mo_who_101 rfl ?_
      refine wp_ishl d_Mo_who_103 ?_
      refine wp_goto (t := 108) d_Mo_who_104 (by decide) ?_
      refine wp_ior d_Mo_who_108 ?_
      refine wp_istore_n (ls' := [_, _, _, _, _]) d_Mo_who_109 rfl (by decide) rfl ?_
      refine wp_iinc (v := _ + 1) (ls' := [_, _, _, _, _]) d_Mo_who_110 (by decide) rfl rfl rfl ?_
      refine wp_goto (t := 45) d_Mo_who_113 (by decide) ?_
      rw [show nI m + 1 = nI (m + 1) from nI_1 m, ecm]
      first
        | (have hc : (sp_ups (A 5, A 6, A 9, ln, n, cl) (I 2) (up40 (A 7) m) (A 8) (20) (bt) (0) (0)) ^^^ dn = 1048575 := c_97
           rw [if_pos hc] at hq; exact ih (m + 1) _ _ _ (by omega) (hm.tr (hm2.un40 (by decide))) hq)
        | (have hc : ¬ (sp_ups (A 5, A 6, A 9, ln, n, cl) (I 2) (up40 (A 7) m) (A 8) (20) (bt) (0) (0)) ^^^ dn = 1048575 := c_97
           rw [if_neg hc] at hq; exact ih (m + 1) _ _ _ (by omega) (hm.tr (hm2.un40 (by decide))) hq)
set_option maxRecDepth 4000 in
theorem l_Mo_who_15 {bt : Int32} {ns : Nat} (hs : I 42 = nI ns) (hs6 : ns ≤ 6) (k : ∀ z, z = sp_dn (A 43) ns 0 0 → px_W G D 0 0 m_Mo_who 45 [some (.ref X.length), some (.int bt), some (.int z), some (.int 0), some (.int (nI 0))] [] (HM X I A L E) Q) : ∀ (q j : Nat) (z : Int32), j + q = ns → sp_dn (A 43) q j z = sp_dn (A 43) ns 0 0 → px_W G D 0 0 m_Mo_who 15 [some (.ref X.length), some (.int bt), some (.int z), some (.int (nI j)), none] [] (HM X I A L E) Q := by
  intro q
  induction q with
  | zero =>
    intro j z hj hz
    refine wp_iload_n d_Mo_who_15 rfl rfl ?_
    refine wp_aload_n d_Mo_who_16 rfl rfl rfl ?_
    refine gM_42 rfl d_Mo_who_17 ?_
    refine wp_icmp_ge (t := 40) d_Mo_who_20 (by decide) (fun c_20 => ?_) (fun c_20 => absurd (by rw [hs]; exact nI_le (by omega) (by omega)) c_20)
    refine wp_iconst (v := 0) d_Mo_who_40 rfl ?_
    refine wp_istore_n (ls' := [_, _, _, _, _]) d_Mo_who_41 rfl (by decide) rfl ?_
    refine wp_iconst (v := 0) d_Mo_who_42 rfl ?_
    refine wp_istore (ls' := [_, _, _, _, _]) d_Mo_who_43 (by decide) rfl ?_
    exact k z hz
  | succ q ih =>
    intro j z hj hz
    have ecj : (nI j).toNatClampNeg = j := nI_clamp (by omega)
    refine wp_iload_n d_Mo_who_15 rfl rfl ?_
    refine wp_aload_n d_Mo_who_16 rfl rfl rfl ?_
    refine gM_42 rfl d_Mo_who_17 ?_
    refine wp_icmp_ge (t := 40) d_Mo_who_20 (by decide) (fun c_20 => absurd c_20 (by rw [hs]; exact nI_ge (by omega) (by omega))) (fun c_20 => ?_)
    refine wp_iload_n d_Mo_who_23 rfl rfl ?_
    refine wp_iconst (v := 1) d_Mo_who_24 rfl ?_
    refine wp_aload_n d_Mo_who_25 rfl rfl rfl ?_
    refine gM_43 rfl d_Mo_who_26 ?_
    refine wp_iload_n d_Mo_who_29 rfl rfl ?_
    refine lM_43 d_Mo_who_30 (vp_in_nI (by omega) (by decide)) ?_
    refine wp_ishl d_Mo_who_31 ?_
    refine wp_ior d_Mo_who_32 ?_
    refine wp_istore_n (ls' := [_, _, _, _, _]) d_Mo_who_33 rfl (by decide) rfl ?_
    refine wp_iinc (v := _ + 1) (ls' := [_, _, _, _, _]) d_Mo_who_34 (by decide) rfl rfl rfl ?_
    refine wp_goto (t := 15) d_Mo_who_37 (by decide) ?_
    rw [ecj, show nI j + 1 = nI (j + 1) from nI_1 j]
    exact ih (j + 1) _ (by omega) hz
set_option maxRecDepth 4000 in
theorem c_Mo_who {n b : Nat} {ln : Nat → Nat} {cl : List sp_Cl} {bt : Int32} {ns : Nat} (hD : 8 ≤ D) (hw : mo_w I A n ln b cl) (hb : mo_hb A) (e32 : I 32 = 9999) (hn0 : I 0 = nI n) (hs : I 42 = nI ns) (hs6 : ns ≤ 6) (kb : ¬ (1 ≤ bt ∧ bt ≤ 99) → Q (some (.int (-2))) (HM X I A L E)) (kk : (1 ≤ bt ∧ bt ≤ 99) → ∀ (I' : Nat → Int32) (A' : Nat → Nat → Int32), ms [29, 30, 31, 33, 36, 37, 38] [28, 34, 35, 39] I I' A A' → Q (some (.int (sp_who (fun m => (sp_ups (A 5, A 6, A 9, ln, n, cl) (I 2) (up40 (A 7) m) (A 8) (20) (bt) (0) (0))) (sp_dn (A 43) ns 0 0) n 0 0))) (HM X I' A' L E)) : px_W G D 0 0 m_Mo_who 0 (px_ent 5 [.ref X.length, .int bt]) [] (HM X I A L E) Q := by
  show px_W _ _ _ _ _ _ [some (.ref X.length), some (.int bt), none, none, none] [] _ _
  refine wp_aload_n d_Mo_who_0 rfl rfl rfl ?_
  refine wp_iload_n d_Mo_who_1 rfl rfl ?_
  refine wp_callV (r := (R_12, T_12, 70)) (M' := m_Mo_isBeat) (as := [_]) (D' := D - 1) (C1 := 0) (C2 := 0) (S1 := 0) (S2 := 0) d_Mo_who_2 rfl w_1361 w_1363 w_45 hm_0 k_Mo_isBeat (Nat.le_of_ble_eq_true rfl) rfl (Nat.le_of_ble_eq_true rfl) (by omega) rfl rfl ?_
  refine c_Mo_isBeat (by omega)  (fun c_2 => ?_) (fun c_2 => ?_)
  · skip
    refine wp_if_ne (t := 11) d_Mo_who_5 (by decide) (fun c_5 => ?_) (fun c_5 => (absurd c_5 (by decide)))
    refine wp_iconst (v := 0) d_Mo_who_11 rfl ?_
    refine wp_istore_n (ls' := [_, _, _, _, _]) d_Mo_who_12 rfl (by decide) rfl ?_
    refine wp_iconst (v := 0) d_Mo_who_13 rfl ?_
    refine wp_istore_n (ls' := [_, _, _, _, _]) d_Mo_who_14 rfl (by decide) rfl ?_
    exact l_Mo_who_15 hs hs6 (fun z hz => l_Mo_who_45 hD hw hb e32 hn0 n 0 0 I A (by omega) ms.rf (by rw [hz]; exact kk c_2)) ns 0 0 (by omega) rfl
  · skip
    refine wp_if_ne (t := 11) d_Mo_who_5 (by decide) (fun c_5 => (absurd c_5 (by decide))) (fun c_5 => ?_)
    refine wp_bipush (v := (-2)) d_Mo_who_8 (by decide) ?_
    refine wp_ireturn d_Mo_who_10 rfl rfl ?_
    exact kb c_2
end MOE
