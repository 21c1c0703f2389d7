section MOH
variable {G : px_G} {D : Nat} {X E : px_H} {I : Nat → Int32} {A : Nat → Nat → Int32} {L : Nat → Nat → Int64} {Q : Option Value → px_H → Prop}
set_option maxRecDepth 4000 in
theorem l_Mo_order_93 {a1 a2 a3 a4 a5 a6 : Int32} (k : px_W G D 0 0 m_Mo_order 120 [some (.ref X.length), some (.int a1), some (.int a2), some (.int a3), some (.int a4), none, none, none] [] (HM X I (va_up A 41 (sp_cp (A 10) (A 41) 6)) L E) Q) : ∀ (q i : Nat), i + q = 6 → px_W G D 0 0 m_Mo_order 93 [some (.ref X.length), some (.int a1), some (.int a2), some (.int a3), some (.int a4), some (.int a5), some (.int a6), some (.int (nI i))] [] (HM X I (va_up A 41 (sp_cp (A 10) (A 41) i)) L E) Q := by
  intro q
  induction q with
  | zero =>
    intro i hi
    have hi6 : i = 6 := by omega
    subst hi6
    refine wp_iload d_Mo_order_93 rfl ?_
    refine wp_bipush (v := 6) d_Mo_order_95 (by decide) ?_
    refine wp_icmp_ge (t := 120) d_Mo_order_97 (by decide) (fun c_97 => ?_) (fun c_97 => absurd (by decide) c_97)
    refine wp_less (ls' := [some (.ref X.length), some (.int _), some (.int _), some (.int _), some (.int _), none, none, none]) ⟨rfl, rfl, rfl, rfl, rfl, trivial⟩ ?_
    exact k
  | succ q ih =>
    intro i hi
    have eci : (nI i).toNatClampNeg = i := nI_clamp (by omega)
    refine wp_iload d_Mo_order_93 rfl ?_
    refine wp_bipush (v := 6) d_Mo_order_95 (by decide) ?_
    refine wp_icmp_ge (t := 120) d_Mo_order_97 (by decide) (fun c_97 => absurd c_97 (nI_ge (b := 6) (by omega) (by decide))) (fun c_97 => ?_)
    refine wp_aload_n d_Mo_order_100 rfl rfl rfl ?_
    refine gM_41 rfl d_Mo_order_101 ?_
    refine wp_iload d_Mo_order_104 rfl ?_
    refine wp_aload_n d_Mo_order_106 rfl rfl rfl ?_
    refine gM_10 rfl d_Mo_order_107 ?_
    refine wp_iload d_Mo_order_110 rfl ?_
    refine lM_10 d_Mo_order_112 (vp_in_nI (by omega) (by decide)) ?_
    refine sM_41 d_Mo_order_113 (vp_in_nI (by omega) (by decide)) ?_
    refine wp_iinc (v := _ + 1) (ls' := [_, _, _, _, _, _, _, _]) d_Mo_order_114 (by decide) rfl rfl rfl ?_
    refine wp_goto (t := 93) d_Mo_order_117 (by decide) ?_
    rw [eci, show nI i + 1 = nI (i + 1) from nI_1 i, bx_uu]
    refine (show px_W G D 0 0 m_Mo_order 93 _ [] (HM X I (va_up A 41 (upd (sp_cp (A 10) (A 41) i) i (A 10 i))) L E) Q from ?_)
    rw [sp_cp_s]
    exact ih (i + 1) (by omega)
set_option maxRecDepth 4000 in
theorem l_Mo_order_48 {n b : Nat} {ln : Nat → Nat} {cl : List sp_Cl} {nn : Nat} {y : Int32} (hD : 8 ≤ D) (hw : mo_w I A n ln b cl) (hh : mo_h A) (e32 : I 32 = 9999) (hn0 : I 0 = nI n) (hn4 : n < 5) (hn30 : nn ≤ 30) (hy : -1 ≤ y ∧ y ≤ 3) : ∀ (q k0 : Nat) (z : Int32 × Nat) (I1 : Nat → Int32) (A1 : Nat → Nat → Int32), k0 + q = sp_fac n → ms [29, 30, 31, 33, 36, 37, 38] [10, 28, 34, 35, 39, 40, 41] I I1 A A1 ∧ A1 40 = sp_cp (A 10) (A 40) 6 ∧ (∀ j, 6 ≤ j → A1 10 j = A 10 j) ∧ ((z.1 = 1000 ∧ k0 = 0) ∨ (z.2 < sp_fac n ∧ (∀ j, j < n → A1 41 j = nI ((sp_pm n z.2).getD j 0)) ∧ ∃ a, a ≤ 100 ∧ z.1 = nI a)) → (∀ (I' : Nat → Int32) (A' : Nat → Nat → Int32), ms [29, 30, 31, 33, 36, 37, 38] [28, 34, 35, 39, 40, 41] I I' A A' → Q (some (.int (if y < 0 then (if (sp_ord (fun k0 => (sp_safe (fun z => (sp_many (A 5, A 6, A 9, (fun p => (sp_pm n k0).getD p 0), n, cl) (I 2) (A 7) (A 8) (nn) (z) (0) (0))) (nI nn) 99 1)) q k0 z).1 = 100 then -5 else (sp_ord (fun k0 => (sp_safe (fun z => (sp_many (A 5, A 6, A 9, (fun p => (sp_pm n k0).getD p 0), n, cl) (I 2) (A 7) (A 8) (nn) (z) (0) (0))) (nI nn) 99 1)) q k0 z).1) else if y < I 0 then nI ((sp_pm n (sp_ord (fun k0 => (sp_safe (fun z => (sp_many (A 5, A 6, A 9, (fun p => (sp_pm n k0).getD p 0), n, cl) (I 2) (A 7) (A 8) (nn) (z) (0) (0))) (nI nn) 99 1)) q k0 z).2).getD y.toNatClampNeg 0) else -5))) (HM X I' A' L E)) → px_W G D 0 0 m_Mo_order 48 [some (.ref X.length), some (.int (nI nn)), some (.int y), some (.int z.1), some (.int (nI k0)), none, none, none] [] (HM X I1 A1 L E) Q := by
  have hn6 : n ≤ 6 := hw.1
  have hfb := sp_fac_24 n hn4
  intro q
  induction q with
  | zero =>
    intro k0 z I1 A1 hk hi hq
    obtain ⟨hm, h40, h10, hbst⟩ := hi
    have hb2 : z.2 < sp_fac n ∧ (∀ j, j < n → A1 41 j = nI ((sp_pm n z.2).getD j 0)) ∧ ∃ a, a ≤ 100 ∧ z.1 = nI a := hbst.resolve_left (fun h => by omega)
    have i0 : I1 0 = nI n := (hm.1 0 (by decide)).trans hn0
    have hms : ms [29, 30, 31, 33, 36, 37, 38] [28, 34, 35, 39, 40, 41] I I1 A (va_up A1 10 (sp_cp (A1 40) (A1 10) 6)) := by
      refine ⟨hm.1, fun k hk => ?_⟩
      show (if k = 10 then sp_cp (A1 40) (A1 10) 6 else A1 k) = A k
      by_cases h : k = 10
      · rw [if_pos h, h40, h]
        funext j
        show (if j < 6 then (if j < 6 then A 10 j else A 40 j) else A1 10 j) = A 10 j
        by_cases hj : j < 6
        · rw [if_pos hj, if_pos hj]
        · rw [if_neg hj]; exact h10 j (by omega)
      · rw [if_neg h]
        exact hm.2 k (fun z => (List.mem_cons.mp z).elim h hk)
    have k1 := hq _ _ hms
    refine wp_aload_n d_Mo_order_48 rfl rfl rfl ?_
    refine wp_iload d_Mo_order_49 rfl ?_
    refine wp_callV (r := (R_12, T_12, 70)) (M' := m_Mo_layOrder) (as := [_]) (D' := D - 1) (C1 := 0) (C2 := 0) (S1 := 0) (S2 := 0) d_Mo_order_51 rfl w_1427 w_1429 w_55 hm_0 k_Mo_layOrder (Nat.le_of_ble_eq_true rfl) rfl (Nat.le_of_ble_eq_true rfl) (by omega) rfl rfl ?_
    refine c_Mo_layOrder (by omega) (n := n) (k0 := k0) i0 hn4 (by omega) (fun c_51 => ?_) (fun c_51 => absurd c_51 (by omega))
    refine wp_if_eq (t := 126) d_Mo_order_54 (by decide) (fun c_54 => ?_) (fun c_54 => (absurd c_54 (by decide)))
    refine wp_aload_n d_Mo_order_126 rfl rfl rfl ?_
    refine wp_callV (r := (R_12, T_12, 70)) (M' := m_Mo_putChain) (as := []) (D' := D - 1) (C1 := 0) (C2 := 0) (S1 := 0) (S2 := 0) d_Mo_order_127 rfl w_1435 w_1437 w_57 hm_0 k_Mo_putChain (Nat.le_of_ble_eq_true rfl) rfl (Nat.le_of_ble_eq_true rfl) (by omega) rfl rfl ?_
    refine c_Mo_putChain (by omega)  ?_
    refine wp_iload_n d_Mo_order_130 rfl rfl ?_
    refine wp_if_ge (t := 147) d_Mo_order_131 (by decide) (fun c_131 => ?_) (fun c_131 => ?_)
    · skip
      refine wp_iload_n d_Mo_order_147 rfl rfl ?_
      refine wp_aload_n d_Mo_order_148 rfl rfl rfl ?_
      refine gM_0 rfl d_Mo_order_149 ?_
      refine wp_icmp_ge (t := 164) d_Mo_order_152 (by decide) (fun c_152 => ?_) (fun c_152 => ?_)
      · skip
        refine wp_bipush (v := (-5)) d_Mo_order_164 (by decide) ?_
        refine wp_ireturn d_Mo_order_166 rfl rfl ?_
        first
          | (have hyl : y < I 0 := by rw [hn0, ← i0]; exact Int32.not_le.mp c_152
             rw [if_neg (Int32.not_lt.mpr c_131), if_pos hyl] at k1
             obtain ⟨yy, hy3, rfl⟩ := sp_n30 (N := 3) rfl ⟨c_131, hy.2⟩
             rw [hn0] at hyl
             have hyn : yy < n := (nI_ltI (by omega) (by omega)).mp hyl
             rw [nI_clamp (by omega)] at k1
             rw [nI_clamp (by omega)]
             refine (show Q (some (.int (A1 41 yy))) _ from ?_)
             rw [hb2.2.1 yy hyn]
             exact k1)
          | (have hyl : ¬ y < I 0 := by rw [hn0, ← i0]; exact Int32.not_lt.mpr c_152
             rw [if_neg (Int32.not_lt.mpr c_131), if_neg hyl] at k1
             exact k1)
      · skip
        refine wp_aload_n d_Mo_order_155 rfl rfl rfl ?_
        refine gM_41 rfl d_Mo_order_156 ?_
        refine wp_iload_n d_Mo_order_159 rfl rfl ?_
        refine lM_41 d_Mo_order_160 (by obtain ⟨yy, hy3, e⟩ := sp_n30 (N := 3) rfl ⟨c_131, hy.2⟩; rw [e]; exact vp_in_nI (by omega) (by decide)) ?_
        refine wp_goto (t := 166) d_Mo_order_161 (by decide) ?_
        refine wp_ireturn d_Mo_order_166 rfl rfl ?_
        first
          | (have hyl : y < I 0 := by rw [hn0, ← i0]; exact Int32.not_le.mp c_152
             rw [if_neg (Int32.not_lt.mpr c_131), if_pos hyl] at k1
             obtain ⟨yy, hy3, rfl⟩ := sp_n30 (N := 3) rfl ⟨c_131, hy.2⟩
             rw [hn0] at hyl
             have hyn : yy < n := (nI_ltI (by omega) (by omega)).mp hyl
             rw [nI_clamp (by omega)] at k1
             rw [nI_clamp (by omega)]
             refine (show Q (some (.int (A1 41 yy))) _ from ?_)
             rw [hb2.2.1 yy hyn]
             exact k1)
          | (have hyl : ¬ y < I 0 := by rw [hn0, ← i0]; exact Int32.not_lt.mpr c_152
             rw [if_neg (Int32.not_lt.mpr c_131), if_neg hyl] at k1
             exact k1)
    · skip
      refine wp_iload_n d_Mo_order_134 rfl rfl ?_
      refine wp_bipush (v := 100) d_Mo_order_135 (by decide) ?_
      refine wp_icmp_ne (t := 145) d_Mo_order_137 (by decide) (fun c_137 => ?_) (fun c_137 => ?_)
      · skip
        refine wp_iload_n d_Mo_order_145 rfl rfl ?_
        refine wp_ireturn d_Mo_order_146 rfl rfl ?_
        first
          | (have hc : (sp_ord (fun k0 => (sp_safe (fun z => (sp_many (A 5, A 6, A 9, (fun p => (sp_pm n k0).getD p 0), n, cl) (I 2) (A 7) (A 8) (nn) (z) (0) (0))) (nI nn) 99 1)) 0 k0 z).1 = 100 := c_137
             rw [if_pos c_131, if_pos hc] at k1; exact k1)
          | (have hc : ¬ (sp_ord (fun k0 => (sp_safe (fun z => (sp_many (A 5, A 6, A 9, (fun p => (sp_pm n k0).getD p 0), n, cl) (I 2) (A 7) (A 8) (nn) (z) (0) (0))) (nI nn) 99 1)) 0 k0 z).1 = 100 := c_137
             rw [if_pos c_131, if_neg hc] at k1; exact k1)
          | (have hy0 : y < 0 := Int32.not_le.mp c_131
             have hc : (sp_ord (fun k0 => (sp_safe (fun z => (sp_many (A 5, A 6, A 9, (fun p => (sp_pm n k0).getD p 0), n, cl) (I 2) (A 7) (A 8) (nn) (z) (0) (0))) (nI nn) 99 1)) 0 k0 z).1 = 100 := c_137
             rw [if_pos hy0, if_pos hc] at k1; exact k1)
          | (have hy0 : y < 0 := Int32.not_le.mp c_131
             have hc : ¬ (sp_ord (fun k0 => (sp_safe (fun z => (sp_many (A 5, A 6, A 9, (fun p => (sp_pm n k0).getD p 0), n, cl) (I 2) (A 7) (A 8) (nn) (z) (0) (0))) (nI nn) 99 1)) 0 k0 z).1 = 100 := c_137
             rw [if_pos hy0, if_neg hc] at k1; exact k1)
      · skip
        refine wp_bipush (v := (-5)) d_Mo_order_140 (by decide) ?_
        refine wp_goto (t := 146) d_Mo_order_142 (by decide) ?_
        refine wp_ireturn d_Mo_order_146 rfl rfl ?_
        first
          | (have hc : (sp_ord (fun k0 => (sp_safe (fun z => (sp_many (A 5, A 6, A 9, (fun p => (sp_pm n k0).getD p 0), n, cl) (I 2) (A 7) (A 8) (nn) (z) (0) (0))) (nI nn) 99 1)) 0 k0 z).1 = 100 := c_137
             rw [if_pos c_131, if_pos hc] at k1; exact k1)
          | (have hc : ¬ (sp_ord (fun k0 => (sp_safe (fun z => (sp_many (A 5, A 6, A 9, (fun p => (sp_pm n k0).getD p 0), n, cl) (I 2) (A 7) (A 8) (nn) (z) (0) (0))) (nI nn) 99 1)) 0 k0 z).1 = 100 := c_137
             rw [if_pos c_131, if_neg hc] at k1; exact k1)
          | (have hy0 : y < 0 := Int32.not_le.mp c_131
             have hc : (sp_ord (fun k0 => (sp_safe (fun z => (sp_many (A 5, A 6, A 9, (fun p => (sp_pm n k0).getD p 0), n, cl) (I 2) (A 7) (A 8) (nn) (z) (0) (0))) (nI nn) 99 1)) 0 k0 z).1 = 100 := c_137
             rw [if_pos hy0, if_pos hc] at k1; exact k1)
          | (have hy0 : y < 0 := Int32.not_le.mp c_131
             have hc : ¬ (sp_ord (fun k0 => (sp_safe (fun z => (sp_many (A 5, A 6, A 9, (fun p => (sp_pm n k0).getD p 0), n, cl) (I 2) (A 7) (A 8) (nn) (z) (0) (0))) (nI nn) 99 1)) 0 k0 z).1 = 100 := c_137
             rw [if_pos hy0, if_neg hc] at k1; exact k1)
  | succ q ih =>
    intro k0 z I1 A1 hk hi hq
    obtain ⟨hm, h40, h10, hbst⟩ := hi
    have hkl : k0 < sp_fac n := by omega
    have i0 : I1 0 = nI n := (hm.1 0 (by decide)).trans hn0
    have e1 : I1 32 = 9999 := (hm.1 32 (by decide)).trans e32
    have i2 : I1 2 = I 2 := hm.1 2 (by decide)
    have hlen := sp_pm_l hn4 hkl
    have hw2 : mo_w I1 (va_up A1 10 (sp_put (A1 10) 0 (sp_pm n k0))) n (fun p => (sp_pm n k0).getD p 0) b cl := mo_w_chain hw (hm.a 10 (by decide) _) (by decide) (by decide) hw.1 ((hm.1 1 (by decide)).trans hw.2.1) (by
      intro p hp
      have h1 := sp_pm_b hn4 hkl hp
      refine ⟨by show (sp_pm n k0).getD p 0 < 6; omega, ?_⟩
      have h2 := sp_put_in (l := sp_pm n k0) (f := A1 10) (k := 0) (j := p) (by omega)
      rw [Nat.zero_add] at h2
      exact h2)
    have hh2 : mo_h (va_up A1 10 (sp_put (A1 10) 0 (sp_pm n k0))) := hh.ms (hm.a 10 (by decide) _) (by decide)
    have eg : sp_safe (fun z => sp_many (va_up A1 10 (sp_put (A1 10) 0 (sp_pm n k0)) 5, va_up A1 10 (sp_put (A1 10) 0 (sp_pm n k0)) 6, va_up A1 10 (sp_put (A1 10) 0 (sp_pm n k0)) 9, (fun p => (sp_pm n k0).getD p 0), n, cl) (I1 2) (va_up A1 10 (sp_put (A1 10) 0 (sp_pm n k0)) 7) (va_up A1 10 (sp_put (A1 10) 0 (sp_pm n k0)) 8) nn z 0 0) (nI nn) 99 1 = (sp_safe (fun z => (sp_many (A 5, A 6, A 9, (fun p => (sp_pm n k0).getD p 0), n, cl) (I 2) (A 7) (A 8) (nn) (z) (0) (0))) (nI nn) 99 1) := by
      show sp_safe (fun z => sp_many (A1 5, A1 6, A1 9, (fun p => (sp_pm n k0).getD p 0), n, cl) (I1 2) (A1 7) (A1 8) nn z 0 0) (nI nn) 99 1 = _
      rw [hm.2 5 (by decide), hm.2 6 (by decide), hm.2 7 (by decide), hm.2 8 (by decide), hm.2 9 (by decide), i2]
    have hst : sp_ord (fun k0 => (sp_safe (fun z => (sp_many (A 5, A 6, A 9, (fun p => (sp_pm n k0).getD p 0), n, cl) (I 2) (A 7) (A 8) (nn) (z) (0) (0))) (nI nn) 99 1)) (q + 1) k0 z = if z.1 ≤ sp_hu (sp_safe (fun z => (sp_many (A 5, A 6, A 9, (fun p => (sp_pm n k0).getD p 0), n, cl) (I 2) (A 7) (A 8) (nn) (z) (0) (0))) (nI nn) 99 1) then sp_ord (fun k0 => (sp_safe (fun z => (sp_many (A 5, A 6, A 9, (fun p => (sp_pm n k0).getD p 0), n, cl) (I 2) (A 7) (A 8) (nn) (z) (0) (0))) (nI nn) 99 1)) q (k0 + 1) z else sp_ord (fun k0 => (sp_safe (fun z => (sp_many (A 5, A 6, A 9, (fun p => (sp_pm n k0).getD p 0), n, cl) (I 2) (A 7) (A 8) (nn) (z) (0) (0))) (nI nn) 99 1)) q (k0 + 1) (sp_hu (sp_safe (fun z => (sp_many (A 5, A 6, A 9, (fun p => (sp_pm n k0).getD p 0), n, cl) (I 2) (A 7) (A 8) (nn) (z) (0) (0))) (nI nn) 99 1), k0) := rfl
    rw [hst] at hq
    have hhb : ∃ a, a ≤ 100 ∧ sp_hu (sp_safe (fun z => (sp_many (A 5, A 6, A 9, (fun p => (sp_pm n k0).getD p 0), n, cl) (I 2) (A 7) (A 8) (nn) (z) (0) (0))) (nI nn) 99 1) = nI a := sp_hu_b
    have h10b : ∀ j, 6 ≤ j → sp_put (A1 10) 0 (sp_pm n k0) j = A 10 j := fun j hj => by rw [sp_put_hi (by omega), h10 j hj]
    refine wp_aload_n d_Mo_order_48 rfl rfl rfl ?_
    refine wp_iload d_Mo_order_49 rfl ?_
    refine wp_callV (r := (R_12, T_12, 70)) (M' := m_Mo_layOrder) (as := [_]) (D' := D - 1) (C1 := 0) (C2 := 0) (S1 := 0) (S2 := 0) d_Mo_order_51 rfl w_1427 w_1429 w_55 hm_0 k_Mo_layOrder (Nat.le_of_ble_eq_true rfl) rfl (Nat.le_of_ble_eq_true rfl) (by omega) rfl rfl ?_
    refine c_Mo_layOrder (by omega) (n := n) (k0 := k0) i0 hn4 (by omega) (fun c_51 => absurd hkl (Nat.not_lt.mpr c_51)) (fun c_51 => ?_)
    refine wp_if_eq (t := 126) d_Mo_order_54 (by decide) (fun c_54 => (absurd c_54 (by decide))) (fun c_54 => ?_)
    refine wp_aload_n d_Mo_order_57 rfl rfl rfl ?_
    refine wp_iload_n d_Mo_order_58 rfl rfl ?_
    refine wp_callV (r := (R_12, T_12, 70)) (M' := m_Mo_safeNow) (as := [_]) (D' := D - 1) (C1 := 0) (C2 := 0) (S1 := 0) (S2 := 0) d_Mo_order_59 rfl w_1403 w_1405 w_52 hm_0 k_Mo_safeNow (Nat.le_of_ble_eq_true rfl) rfl (Nat.le_of_ble_eq_true rfl) (by omega) rfl rfl ?_
    refine c_Mo_safeNow (by omega) (nn := nn) hw2 hh2 e1 hn30 (fun I2 A2 hm2 => ?_)
    rw [eg]
    refine wp_istore (ls' := [_, _, _, _, _, _, _, _]) d_Mo_order_62 (by decide) rfl ?_
    refine wp_iload d_Mo_order_64 rfl ?_
    refine wp_if_ge (t := 74) d_Mo_order_66 (by decide) (fun c_66 => ?_) (fun c_66 => ?_)
    · skip
      refine wp_iload d_Mo_order_74 rfl ?_
      refine wp_istore (ls' := [_, _, _, _, _, _, _, _]) d_Mo_order_76 (by decide) rfl ?_
      refine wp_iload d_Mo_order_78 rfl ?_
      refine wp_iload_n d_Mo_order_80 rfl rfl ?_
      refine wp_icmp_lt (t := 87) d_Mo_order_81 (by decide) (fun c_81 => ?_) (fun c_81 => ?_)
      · skip
        refine wp_iload d_Mo_order_87 rfl ?_
        refine wp_istore_n (ls' := [_, _, _, _, _, _, _, _]) d_Mo_order_89 rfl (by decide) rfl ?_
        refine wp_iconst (v := 0) d_Mo_order_90 rfl ?_
        refine wp_istore (ls' := [_, _, _, _, _, _, _, _]) d_Mo_order_91 (by decide) rfl ?_
        have hm3 : ms [29, 30, 31, 33, 36, 37, 38] [10, 28, 34, 35, 39, 40, 41] I I2 A A2 := (hm.a 10 (by decide) _).tr (hm2.mo (by decide) (by decide))
        have h40b : A2 40 = sp_cp (A 10) (A 40) 6 := (hm2.2 40 (by decide)).trans h40
        have e10 : A2 10 = sp_put (A1 10) 0 (sp_pm n k0) := hm2.2 10 (by decide)
        have h10c : ∀ j, 6 ≤ j → A2 10 j = A 10 j := fun j hj => by rw [e10]; exact h10b j hj
        have hc : ¬ z.1 ≤ sp_hu (sp_safe (fun z => (sp_many (A 5, A 6, A 9, (fun p => (sp_pm n k0).getD p 0), n, cl) (I 2) (A 7) (A 8) (nn) (z) (0) (0))) (nI nn) 99 1) := by
          first
            | (rw [sp_hu, if_pos (Int32.not_le.mp c_66)]; exact Int32.not_le.mpr c_81)
            | (rw [sp_hu, if_neg (Int32.not_lt.mpr c_66)]; exact Int32.not_le.mpr c_81)
        rw [if_neg hc] at hq
        have hval : sp_hu (sp_safe (fun z => (sp_many (A 5, A 6, A 9, (fun p => (sp_pm n k0).getD p 0), n, cl) (I 2) (A 7) (A 8) (nn) (z) (0) (0))) (nI nn) 99 1) = (sp_safe (fun z => (sp_many (A 5, A 6, A 9, (fun p => (sp_pm n k0).getD p 0), n, cl) (I 2) (A 7) (A 8) (nn) (z) (0) (0))) (nI nn) 99 1) := by
          first
            | exact if_pos (Int32.not_le.mp c_66)
            | exact if_neg (Int32.not_lt.mpr c_66)
        rw [← hval]
        rw [show HM X I2 A2 L E = HM X I2 (va_up A2 41 (sp_cp (A2 10) (A2 41) 0)) L E from by rw [sp_cp_0, va_us]]
        refine l_Mo_order_93 (A := A2) ?_ 6 0 (by omega)
        refine wp_iinc (v := _ + 1) (ls' := [_, _, _, _, _, _, _, _]) d_Mo_order_120 (by decide) rfl rfl rfl ?_
        refine wp_goto (t := 48) d_Mo_order_123 (by decide) ?_
        rw [show nI k0 + 1 = nI (k0 + 1) from nI_1 k0]
        refine ih (k0 + 1) (sp_hu (sp_safe (fun z => (sp_many (A 5, A 6, A 9, (fun p => (sp_pm n k0).getD p 0), n, cl) (I 2) (A 7) (A 8) (nn) (z) (0) (0))) (nI nn) 99 1), k0) I2 _ (by omega) ⟨hm3.a 41 (by decide) _, h40b, h10c, Or.inr ⟨hkl, fun j hj => ?_, hhb⟩⟩ hq
        show (if j < 6 then A2 10 j else A2 41 j) = nI ((sp_pm n k0).getD j 0)
        rw [if_pos (by omega), e10]
        have h2 := sp_put_in (l := sp_pm n k0) (f := A1 10) (k := 0) (j := j) (by omega)
        rw [Nat.zero_add] at h2
        exact h2
      · skip
        refine wp_goto (t := 120) d_Mo_order_84 (by decide) ?_
        have hm3 : ms [29, 30, 31, 33, 36, 37, 38] [10, 28, 34, 35, 39, 40, 41] I I2 A A2 := (hm.a 10 (by decide) _).tr (hm2.mo (by decide) (by decide))
        have h40b : A2 40 = sp_cp (A 10) (A 40) 6 := (hm2.2 40 (by decide)).trans h40
        have h10c : ∀ j, 6 ≤ j → A2 10 j = A 10 j := fun j hj => by rw [hm2.2 10 (by decide)]; exact h10b j hj
        have hc : z.1 ≤ sp_hu (sp_safe (fun z => (sp_many (A 5, A 6, A 9, (fun p => (sp_pm n k0).getD p 0), n, cl) (I 2) (A 7) (A 8) (nn) (z) (0) (0))) (nI nn) 99 1) := by
          first
            | (rw [sp_hu, if_pos c_66]; exact Int32.not_lt.mp c_81)
            | (rw [sp_hu, if_pos (Int32.not_le.mp c_66)]; exact Int32.not_lt.mp c_81)
            | (rw [sp_hu, if_neg (Int32.not_lt.mpr c_66)]; exact Int32.not_lt.mp c_81)
            | (rw [sp_hu, if_neg c_66]; exact Int32.not_lt.mp c_81)
        rw [if_pos hc] at hq
        refine wp_iinc (v := _ + 1) (ls' := [_, _, _, _, _, _, _, _]) d_Mo_order_120 (by decide) rfl rfl rfl ?_
        refine wp_goto (t := 48) d_Mo_order_123 (by decide) ?_
        rw [show nI k0 + 1 = nI (k0 + 1) from nI_1 k0]
        refine wp_less (ls' := [some (.ref X.length), some (.int _), some (.int _), some (.int _), some (.int _), none, none, none]) ⟨rfl, rfl, rfl, rfl, rfl, trivial⟩ ?_
        exact ih (k0 + 1) z I2 A2 (by omega) ⟨hm3, h40b, h10c, hbst.elim (fun h => by
          exfalso
          obtain ⟨a, ha1, ha2⟩ := hhb
          rw [ha2, h.1] at hc
          exact absurd hc (nI_ge (b := 1000) (by omega) (by decide))) (fun h => Or.inr ⟨h.1, fun j hj => by rw [hm2.2 41 (by decide)]; exact h.2.1 j hj, h.2.2⟩)⟩ hq
    · skip
      refine wp_bipush (v := 100) d_Mo_order_69 (by decide) ?_
      refine wp_goto (t := 76) d_Mo_order_71 (by decide) ?_
      refine wp_istore (ls' := [_, _, _, _, _, _, _, _]) d_Mo_order_76 (by decide) rfl ?_
      refine wp_iload d_Mo_order_78 rfl ?_
      refine wp_iload_n d_Mo_order_80 rfl rfl ?_
      refine wp_icmp_lt (t := 87) d_Mo_order_81 (by decide) (fun c_81 => ?_) (fun c_81 => ?_)
      · skip
        refine wp_iload d_Mo_order_87 rfl ?_
        refine wp_istore_n (ls' := [_, _, _, _, _, _, _, _]) d_Mo_order_89 rfl (by decide) rfl ?_
        refine wp_iconst (v := 0) d_Mo_order_90 rfl ?_
        refine wp_istore (ls' := [_, _, _, _, _, _, _, _]) d_Mo_order_91 (by decide) rfl ?_
        have hm3 : ms [29, 30, 31, 33, 36, 37, 38] [10, 28, 34, 35, 39, 40, 41] I I2 A A2 := (hm.a 10 (by decide) _).tr (hm2.mo (by decide) (by decide))
        have h40b : A2 40 = sp_cp (A 10) (A 40) 6 := (hm2.2 40 (by decide)).trans h40
        have e10 : A2 10 = sp_put (A1 10) 0 (sp_pm n k0) := hm2.2 10 (by decide)
        have h10c : ∀ j, 6 ≤ j → A2 10 j = A 10 j := fun j hj => by rw [e10]; exact h10b j hj
        have hc : ¬ z.1 ≤ sp_hu (sp_safe (fun z => (sp_many (A 5, A 6, A 9, (fun p => (sp_pm n k0).getD p 0), n, cl) (I 2) (A 7) (A 8) (nn) (z) (0) (0))) (nI nn) 99 1) := by
          first
            | (rw [sp_hu, if_pos (Int32.not_le.mp c_66)]; exact Int32.not_le.mpr c_81)
            | (rw [sp_hu, if_neg (Int32.not_lt.mpr c_66)]; exact Int32.not_le.mpr c_81)
        rw [if_neg hc] at hq
        have hval : sp_hu (sp_safe (fun z => (sp_many (A 5, A 6, A 9, (fun p => (sp_pm n k0).getD p 0), n, cl) (I 2) (A 7) (A 8) (nn) (z) (0) (0))) (nI nn) 99 1) = 100 := by
          first
            | exact if_pos (Int32.not_le.mp c_66)
            | exact if_neg (Int32.not_lt.mpr c_66)
        rw [← hval]
        rw [show HM X I2 A2 L E = HM X I2 (va_up A2 41 (sp_cp (A2 10) (A2 41) 0)) L E from by rw [sp_cp_0, va_us]]
        refine l_Mo_order_93 (A := A2) ?_ 6 0 (by omega)
        refine wp_iinc (v := _ + 1) (ls' := [_, _, _, _, _, _, _, _]) d_Mo_order_120 (by decide) rfl rfl rfl ?_
        refine wp_goto (t := 48) d_Mo_order_123 (by decide) ?_
        rw [show nI k0 + 1 = nI (k0 + 1) from nI_1 k0]
        refine ih (k0 + 1) (sp_hu (sp_safe (fun z => (sp_many (A 5, A 6, A 9, (fun p => (sp_pm n k0).getD p 0), n, cl) (I 2) (A 7) (A 8) (nn) (z) (0) (0))) (nI nn) 99 1), k0) I2 _ (by omega) ⟨hm3.a 41 (by decide) _, h40b, h10c, Or.inr ⟨hkl, fun j hj => ?_, hhb⟩⟩ hq
        show (if j < 6 then A2 10 j else A2 41 j) = nI ((sp_pm n k0).getD j 0)
        rw [if_pos (by omega), e10]
        have h2 := sp_put_in (l := sp_pm n k0) (f := A1 10) (k := 0) (j := j) (by omega)
        rw [Nat.zero_add] at h2
        exact h2
      · skip
        refine wp_goto (t := 120) d_Mo_order_84 (by decide) ?_
        have hm3 : ms [29, 30, 31, 33, 36, 37, 38] [10, 28, 34, 35, 39, 40, 41] I I2 A A2 := (hm.a 10 (by decide) _).tr (hm2.mo (by decide) (by decide))
        have h40b : A2 40 = sp_cp (A 10) (A 40) 6 := (hm2.2 40 (by decide)).trans h40
        have h10c : ∀ j, 6 ≤ j → A2 10 j = A 10 j := fun j hj => by rw [hm2.2 10 (by decide)]; exact h10b j hj
        have hc : z.1 ≤ sp_hu (sp_safe (fun z => (sp_many (A 5, A 6, A 9, (fun p => (sp_pm n k0).getD p 0), n, cl) (I 2) (A 7) (A 8) (nn) (z) (0) (0))) (nI nn) 99 1) := by
          first
            | (rw [sp_hu, if_pos c_66]; exact Int32.not_lt.mp c_81)
            | (rw [sp_hu, if_pos (Int32.not_le.mp c_66)]; exact Int32.not_lt.mp c_81)
            | (rw [sp_hu, if_neg (Int32.not_lt.mpr c_66)]; exact Int32.not_lt.mp c_81)
            | (rw [sp_hu, if_neg c_66]; exact Int32.not_lt.mp c_81)
        rw [if_pos hc] at hq
        refine wp_iinc (v := _ + 1) (ls' := [_, _, _, _, _, _, _, _]) d_Mo_order_120 (by decide) rfl rfl rfl ?_
        refine wp_goto (t := 48) d_Mo_order_123 (by decide) ?_
        rw [show nI k0 + 1 = nI (k0 + 1) from nI_1 k0]
        refine wp_less (ls' := [some (.ref X.length), some (.int _), some (.int _), some (.int _), some (.int _), none, none, none]) ⟨rfl, rfl, rfl, rfl, rfl, trivial⟩ ?_
        exact ih (k0 + 1) z I2 A2 (by omega) ⟨hm3, h40b, h10c, hbst.elim (fun h => by
          exfalso
          obtain ⟨a, ha1, ha2⟩ := hhb
          rw [ha2, h.1] at hc
          exact absurd hc (nI_ge (b := 1000) (by omega) (by decide))) (fun h => Or.inr ⟨h.1, fun j hj => by rw [hm2.2 41 (by decide)]; exact h.2.1 j hj, h.2.2⟩)⟩ hq
set_option maxRecDepth 4000 in
theorem c_Mo_order {n b : Nat} {ln : Nat → Nat} {cl : List sp_Cl} {x y : Int32} (hD : 9 ≤ D) (hw : mo_w I A n ln b cl) (hh : mo_h A) (e32 : I 32 = 9999) (hn0 : I 0 = nI n) (kn : ¬ (-1 ≤ y ∧ y ≤ 3) → Q (some (.int (-1))) (HM X I A L E)) (kb : (-1 ≤ y ∧ y ≤ 3) → ¬ (1 ≤ x ∧ x ≤ 8) → Q (some (.int (-2))) (HM X I A L E)) (k4 : (-1 ≤ y ∧ y ≤ 3) → (1 ≤ x ∧ x ≤ 8) → ¬ n < 5 → Q (some (.int (-9))) (HM X I A L E)) (kk : (-1 ≤ y ∧ y ≤ 3) → (1 ≤ x ∧ x ≤ 8) → n < 5 → ∀ nn, nn ≤ 8 → x = nI nn → ∀ (I' : Nat → Int32) (A' : Nat → Nat → Int32), ms [29, 30, 31, 33, 36, 37, 38] [28, 34, 35, 39, 40, 41] I I' A A' → Q (some (.int (if y < 0 then (if (sp_ord (fun k0 => (sp_safe (fun z => (sp_many (A 5, A 6, A 9, (fun p => (sp_pm n k0).getD p 0), n, cl) (I 2) (A 7) (A 8) (nn) (z) (0) (0))) (nI nn) 99 1)) (sp_fac n) 0 (1000, 0)).1 = 100 then -5 else (sp_ord (fun k0 => (sp_safe (fun z => (sp_many (A 5, A 6, A 9, (fun p => (sp_pm n k0).getD p 0), n, cl) (I 2) (A 7) (A 8) (nn) (z) (0) (0))) (nI nn) 99 1)) (sp_fac n) 0 (1000, 0)).1) else if y < I 0 then nI ((sp_pm n (sp_ord (fun k0 => (sp_safe (fun z => (sp_many (A 5, A 6, A 9, (fun p => (sp_pm n k0).getD p 0), n, cl) (I 2) (A 7) (A 8) (nn) (z) (0) (0))) (nI nn) 99 1)) (sp_fac n) 0 (1000, 0)).2).getD y.toNatClampNeg 0) else -5))) (HM X I' A' L E)) : px_W G D 0 0 m_Mo_order 0 (px_ent 8 [.ref X.length, .int x, .int y]) [] (HM X I A L E) Q := by
  show px_W _ _ _ _ _ _ [some (.ref X.length), some (.int x), some (.int y), none, none, none, none, none] [] _ _
  refine wp_aload_n d_Mo_order_0 rfl rfl rfl ?_
  refine wp_iload_n d_Mo_order_1 rfl rfl ?_
  refine wp_iconst (v := (-1)) d_Mo_order_2 rfl ?_
  refine wp_iconst (v := 3) d_Mo_order_3 rfl ?_
  refine wp_callV (r := (R_12, T_12, 70)) (M' := m_Mo_in) (as := [_, _, _]) (D' := D - 1) (C1 := 0) (C2 := 0) (S1 := 0) (S2 := 0) d_Mo_order_4 rfl w_1209 w_1211 w_15 hm_0 k_Mo_in (Nat.le_of_ble_eq_true rfl) rfl (Nat.le_of_ble_eq_true rfl) (by omega) rfl rfl ?_
  refine c_Mo_in (by omega)  (fun c_4 => ?_) (fun c_4 => ?_)
  · skip
    refine wp_if_ne (t := 12) d_Mo_order_7 (by decide) (fun c_7 => ?_) (fun c_7 => (absurd c_7 (by decide)))
    refine wp_aload_n d_Mo_order_12 rfl rfl rfl ?_
    refine wp_iload_n d_Mo_order_13 rfl rfl ?_
    refine wp_iconst (v := 1) d_Mo_order_14 rfl ?_
    refine wp_bipush (v := 8) d_Mo_order_15 (by decide) ?_
    refine wp_callV (r := (R_12, T_12, 70)) (M' := m_Mo_in) (as := [_, _, _]) (D' := D - 1) (C1 := 0) (C2 := 0) (S1 := 0) (S2 := 0) d_Mo_order_17 rfl w_1209 w_1211 w_15 hm_0 k_Mo_in (Nat.le_of_ble_eq_true rfl) rfl (Nat.le_of_ble_eq_true rfl) (by omega) rfl rfl ?_
    refine c_Mo_in (by omega)  (fun c_17 => ?_) (fun c_17 => ?_)
    · skip
      refine wp_if_ne (t := 26) d_Mo_order_20 (by decide) (fun c_20 => ?_) (fun c_20 => (absurd c_20 (by decide)))
      obtain ⟨nn, hnn, rfl⟩ := sp_n1 (N := 8) rfl c_17
      refine wp_aload_n d_Mo_order_26 rfl rfl rfl ?_
      refine gM_0 rfl d_Mo_order_27 ?_
      refine wp_iconst (v := 4) d_Mo_order_30 rfl ?_
      refine wp_icmp_le (t := 37) d_Mo_order_31 (by decide) (fun c_31 => ?_) (fun c_31 => ?_)
      · skip
        refine wp_aload_n d_Mo_order_37 rfl rfl rfl ?_
        refine wp_callV (r := (R_12, T_12, 70)) (M' := m_Mo_keepChain) (as := []) (D' := D - 1) (C1 := 0) (C2 := 0) (S1 := 0) (S2 := 0) d_Mo_order_38 rfl w_1423 w_1425 w_54 hm_0 k_Mo_keepChain (Nat.le_of_ble_eq_true rfl) rfl (Nat.le_of_ble_eq_true rfl) (by omega) rfl rfl ?_
        refine c_Mo_keepChain (by omega)  ?_
        refine wp_sipush (v := 1000) d_Mo_order_41 (by decide) ?_
        refine wp_istore_n (ls' := [_, _, _, _, _, _, _, _]) d_Mo_order_44 rfl (by decide) rfl ?_
        refine wp_iconst (v := 0) d_Mo_order_45 rfl ?_
        refine wp_istore (ls' := [_, _, _, _, _, _, _, _]) d_Mo_order_46 (by decide) rfl ?_
        rw [hn0] at c_31
        have hn4 : n < 5 := Nat.lt_succ_of_le ((nI_leI (by have := hw.1; omega) (by decide)).mp c_31)
        exact l_Mo_order_48 (by omega) hw hh e32 hn0 hn4 (by omega) c_4 (sp_fac n) 0 (1000, 0) I _ (by omega) ⟨ms.rf.a 40 (by decide) _, rfl, fun _ _ => rfl, Or.inl ⟨rfl, rfl⟩⟩ (kk c_4 c_17 hn4 nn hnn rfl)
      · skip
        refine wp_bipush (v := (-9)) d_Mo_order_34 (by decide) ?_
        refine wp_ireturn d_Mo_order_36 rfl rfl ?_
        exact k4 c_4 c_17 (fun h => absurd (by rw [hn0]; exact nI_le (b := 4) (by omega) (by decide)) c_31)
    · skip
      refine wp_if_ne (t := 26) d_Mo_order_20 (by decide) (fun c_20 => (absurd c_20 (by decide))) (fun c_20 => ?_)
      refine wp_bipush (v := (-2)) d_Mo_order_23 (by decide) ?_
      refine wp_ireturn d_Mo_order_25 rfl rfl ?_
      exact kb c_4 c_17
  · skip
    refine wp_if_ne (t := 12) d_Mo_order_7 (by decide) (fun c_7 => (absurd c_7 (by decide))) (fun c_7 => ?_)
    refine wp_iconst (v := (-1)) d_Mo_order_10 rfl ?_
    refine wp_ireturn d_Mo_order_11 rfl rfl ?_
    exact kn c_4
end MOH
