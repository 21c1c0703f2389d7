theorem sp_hu_ge {g : Int32 → Int32} {n : Int32} : ∀ (q b : Nat), b + q = 100 → ∃ a, b ≤ a ∧ a ≤ 100 ∧ sp_hu (sp_safe g n q b) = nI a := by
  intro q
  induction q with
  | zero => intro b hb; exact ⟨100, by omega, by omega, rfl⟩
  | succ q ih =>
    intro b hb
    rw [sp_safe]
    by_cases h : g (nI b) = n
    · rw [if_pos h]
      exact ⟨b, Nat.le_refl _, by omega, by rw [sp_hu, if_neg (nI_pos (by omega))]⟩
    · rw [if_neg h]
      obtain ⟨a, h1, h2, h3⟩ := ih (b + 1) (by omega)
      exact ⟨a, by omega, h2, h3⟩
theorem lsb_hu {g : Int32 → Int32} {n : Int32} {L : Nat} (hL : L ≤ 100) : ∀ (q b : Nat), b + q = L → sp_lsb g n q b = (if sp_hu (sp_safe g n (100 - b) b) < nI L then sp_hu (sp_safe g n (100 - b) b) else nI L) := by
  intro q
  induction q with
  | zero =>
    intro b hb
    obtain ⟨a, h1, h2, h3⟩ := sp_hu_ge (g := g) (n := n) (100 - b) b (by omega)
    rw [h3, if_neg (fun z => absurd z (nI_nlt (by omega) (by omega)))]
    show nI b = nI L
    rw [show b = L from hb]
  | succ q ih =>
    intro b hb
    rw [sp_lsb, show 100 - b = (100 - (b + 1)) + 1 by omega, sp_safe]
    by_cases h : g (nI b) = n
    · rw [if_pos h, if_pos h, show sp_hu (nI b) = nI b from by rw [sp_hu, if_neg (nI_pos (by omega))], if_pos (nI_lt (by omega) (by omega))]
    · rw [if_neg h, if_neg h]
      exact ih (b + 1) (by omega)
section TDI
variable {G : px_G} {D : Nat} {K K1 : tc_K} {MZ h : px_H} {r r1 : tc_r} {Q : Option Value → px_H → Prop} {mn : tc_mn} {sc : tc_sc} {B : Nat} {S : sp_St} {t0 : Int32} {hl fr : Nat → Int32}
/-- every man stands ready at the start -/
def hall (mn : tc_mn) (w : Nat → Option Nat) (n : Nat) (kd vd : Nat → Int32) : Prop := ∀ m, m < n → ∃ pm k v, w m = some pm ∧ mn pm = some (k, m, v) ∧ kd m = nI k ∧ vd m = nI v
theorem strt.ln {n : Nat} {kd vd rows f : Nat → Int32} {ln l2 : Nat → Nat} {cl : List sp_Cl} (h : strt mn sc K K1 B (kd, vd, rows, ln, n, cl) t0 hl fr) (ha : hall mn (K1.2.2.1 2) n kd vd) (hf : ∀ p, p < n → l2 p < n ∧ f p = nI (l2 p)) : strt mn sc K (ks K1 2 (K1.1 2) (va_up (K1.2.1 2) 4 f) (K1.2.2.1 2) (K1.2.2.2.1 2)) B (kd, vd, rows, l2, n, cl) t0 hl fr := by
  obtain ⟨h1, ⟨⟨w1, w2, w3⟩, g2, g3, g4, g5, g6⟩, h3, h4, h5, h6⟩ := h
  refine ⟨h1.s 2 (by decide) _ _ _ _, ⟨⟨w1, w2, fun p hp => ?_⟩, g2, g3, g4, g5, g6⟩, h3, h4, h5, h6⟩
  have hp : p < n := hp
  have w1 : n ≤ 6 := w1
  obtain ⟨a1, a2⟩ := hf p hp
  exact ⟨Nat.lt_of_lt_of_le a1 w1, a2, ha (l2 p) a1⟩
theorem sp_pm_n {n k p : Nat} (hn : n < 5) (hk : k < sp_fac n) (hp : p < n) : nprow n k p < n := sp_pm_b hn hk hp
set_option maxRecDepth 4000 in
theorem l_TC_order_146 {n : Nat} {kd vd : Nat → Int32} {cl : List sp_Cl} {nn L kb k : Nat} {y v5 v6 : Int32} (hn4 : n < 5) (h7 : K.1 0 7 = nI n) (hs : strt mn sc K K1 B (kd, vd, K.2.1 0 3, nprow n k, n, cl) (K.1 0 9) (K.2.1 0 1) (K.2.1 0 2)) (hR1 : tc_R mn sc MZ r1) (hbr : ∀ p, p < n → K1.2.1 4 3 p = nI (nprow n kb p)) (kk : ∀ K2 (r2 : tc_r), tk [2, 3, 4] K K2 → tc_R mn sc MZ r2 → Q (some (.int (if y < 0 then (if 99 < (nI L, kb).1 then -5 else (nI L, kb).1) else if y < nI n then nI (nprow n (nI L, kb).2 y.toNatClampNeg) else -5))) (HT K2 MZ r2)) : px_W G D 0 0 m_TC_order 146 [some (.ref 0), some (.int (nI nn)), some (.int y), some (.ref (tc_p 2)), some (.int (nI L)), some (.int v5), some (.int v6)] [] (HT K1 MZ r1) Q := by
  refine wp_iload_n d_TC_order_146 rfl rfl ?_
  refine wp_if_ge (t := 165) d_TC_order_147 (by decide) (fun c_147 => ?_) (fun c_147 => ?_)
  · skip
    refine wp_iload_n d_TC_order_165 rfl rfl ?_
    refine wp_aload_n d_TC_order_166 rfl rfl rfl ?_
    refine gC_0 gf_TC_24_0 d_TC_order_167 ?_
    refine gK_7 (s := 0) (by decide) gf_TC_67_1 d_TC_order_170 ?_
    rw [(hs.1.1 0 (by decide)).1, h7]
    refine wp_icmp_ge (t := 185) d_TC_order_173 (by decide) (fun c_173 => ?_) (fun c_173 => ?_)
    · skip
      refine wp_bipush (v := (-5)) d_TC_order_185 (by decide) ?_
      refine wp_ireturn d_TC_order_187 rfl rfl ?_
      rw [if_neg (Int32.not_lt.mpr c_147), if_neg (Int32.not_lt.mpr c_173)] at kk
      exact kk K1 r1 hs.1 hR1
    · skip
      obtain ⟨yy, hyn, rfl⟩ := (i_rng (m := y) (n := n) (by omega)).mp ⟨c_147, Int32.not_le.mp c_173⟩
      refine wp_aload_n d_TC_order_176 rfl rfl rfl ?_
      refine gC_7 gf_TC_61_0 d_TC_order_177 ?_
      refine wp_iload_n d_TC_order_180 rfl rfl ?_
      refine lA_57 d_TC_order_181 (vp_in_nI (show yy < 6 by omega) (by decide)) ?_
      refine wp_goto (t := 187) d_TC_order_182 (by decide) ?_
      refine wp_ireturn d_TC_order_187 rfl rfl ?_
      rw [nI_clamp (by omega), hbr yy hyn]
      rw [if_neg (Int32.not_lt.mpr c_147), if_pos (Int32.not_le.mp c_173), nI_clamp (by omega)] at kk
      exact kk K1 r1 hs.1 hR1
  · skip
    refine wp_iload d_TC_order_150 rfl ?_
    refine wp_bipush (v := 99) d_TC_order_152 (by decide) ?_
    refine wp_icmp_le (t := 162) d_TC_order_154 (by decide) (fun c_154 => ?_) (fun c_154 => ?_)
    · skip
      refine wp_iload d_TC_order_162 rfl ?_
      refine wp_ireturn d_TC_order_164 rfl rfl ?_
      rw [if_pos (Int32.not_le.mp c_147), if_neg (Int32.not_lt.mpr c_154)] at kk
      exact kk K1 r1 hs.1 hR1
    · skip
      refine wp_bipush (v := (-5)) d_TC_order_157 (by decide) ?_
      refine wp_goto (t := 164) d_TC_order_159 (by decide) ?_
      refine wp_ireturn d_TC_order_164 rfl rfl ?_
      rw [if_pos (Int32.not_le.mp c_147), if_pos (Int32.not_le.mp c_154)] at kk
      exact kk K1 r1 hs.1 hR1
set_option maxRecDepth 8000 in
set_option maxHeartbeats 2000000 in
theorem l_TC_order_85 {n : Nat} {kd vd : Nat → Int32} {cl : List sp_Cl} {nn : Nat} {y : Int32} (hD : 11 ≤ D) (hn4 : n < 5) (h7 : K.1 0 7 = nI n) (hB : B ≤ 20000) (hn30 : nn ≤ 30) : ∀ (q k L kb : Nat) (K1 : tc_K) (r1 : tc_r), k + (q + 1) = sp_fac n → 1 ≤ L → L ≤ 100 → strt mn sc K K1 B (kd, vd, K.2.1 0 3, nprow n k, n, cl) (K.1 0 9) (K.2.1 0 1) (K.2.1 0 2) → tc_R mn sc MZ r1 → hall mn (K1.2.2.1 2) n kd vd → (∀ p, p < n → K1.2.1 4 3 p = nI (nprow n kb p)) → (∀ K2 (r2 : tc_r), tk [2, 3, 4] K K2 → tc_R mn sc MZ r2 → Q (some (.int (if y < 0 then (if 99 < (sp_ord (fun k0 => sp_safe (fun z => sp_many (kd, vd, K.2.1 0 3, nprow n k0, n, cl) (K.1 0 9) (K.2.1 0 1) (K.2.1 0 2) nn z 0 0) (nI nn) 99 1) (q + 1) k (nI L, kb)).1 then -5 else (sp_ord (fun k0 => sp_safe (fun z => sp_many (kd, vd, K.2.1 0 3, nprow n k0, n, cl) (K.1 0 9) (K.2.1 0 1) (K.2.1 0 2) nn z 0 0) (nI nn) 99 1) (q + 1) k (nI L, kb)).1) else if y < nI n then nI (nprow n (sp_ord (fun k0 => sp_safe (fun z => sp_many (kd, vd, K.2.1 0 3, nprow n k0, n, cl) (K.1 0 9) (K.2.1 0 1) (K.2.1 0 2) nn z 0 0) (nI nn) 99 1) (q + 1) k (nI L, kb)).2 y.toNatClampNeg) else -5))) (HT K2 MZ r2)) → px_W G D 0 0 m_TC_order 85 [some (.ref 0), some (.int (nI nn)), some (.int y), some (.ref (tc_p 2)), some (.int (nI L)), some (.int (nI k)), none] [] (HT K1 MZ r1) Q := by
  have hf24 := (sp_fac_24 n hn4).1
  intro q
  induction q with
  | zero =>
    intro k L kb K1 r1 hkq hL1 hL2 hs hR1 ha hbr kk
    have ih : ∀ (k L kb : Nat) (K1 : tc_K) (r1 : tc_r), False → px_W G D 0 0 m_TC_order 85 [some (.ref 0), some (.int (nI nn)), some (.int y), some (.ref (tc_p 2)), some (.int (nI L)), some (.int (nI k)), none] [] (HT K1 MZ r1) Q := fun _ _ _ _ _ h => h.elim
    refine wp_iload d_TC_order_85 rfl ?_
    refine wp_bipush (v := (nI 24)) d_TC_order_87 (by decide) ?_
    refine wp_icmp_ge (t := 146) d_TC_order_89 (by decide) (fun c_89 => absurd c_89 (nI_ge (by omega) (by omega))) (fun c_89 => ?_)
    refine wp_aload_n d_TC_order_92 rfl rfl rfl ?_
    refine gC_2 gf_TC_38_0 d_TC_order_93 ?_
    refine wp_iload_n d_TC_order_96 rfl rfl ?_
    refine wp_iload d_TC_order_97 rfl ?_
    refine wp_callV (r := (R_2, T_2, 6)) (M' := m_Tr_leastSafeBelow) (as := [_, _]) (D' := D - 1) (C1 := 0) (C2 := 0) (S1 := 0) (S2 := 0) d_TC_order_99 rfl w_733 w_734 w_735 tt_23 k_Tr_leastSafeBelow (Nat.le_of_ble_eq_true rfl) rfl (Nat.le_of_ble_eq_true rfl) (by omega) rfl rfl ?_
    refine c_lsb (by omega) hR1 hs hB (by omega) (by omega) (by omega) (fun K2 r2 hs2 hk3 hR2 => ?_)
    obtain ⟨t1, t2, t3, t4⟩ := hk3.1 2 (by decide)
    obtain ⟨u1, u2, u3, u4⟩ := hk3.1 4 (by decide)
    obtain ⟨a, ha1, ha2, hae⟩ := sp_hu_ge (g := (fun z => sp_many (kd, vd, K.2.1 0 3, nprow n k, n, cl) (K.1 0 9) (K.2.1 0 1) (K.2.1 0 2) nn z 0 0)) (n := nI nn) 99 1 rfl
    rw [lsb_hu hL2 (L - 1) 1 (by omega), show 100 - 1 = 99 from rfl, hae]
    have hord : ∀ q', sp_ord (fun k0 => sp_safe (fun z => sp_many (kd, vd, K.2.1 0 3, nprow n k0, n, cl) (K.1 0 9) (K.2.1 0 1) (K.2.1 0 2) nn z 0 0) (nI nn) 99 1) (q' + 1) k (nI L, kb) = if nI L ≤ sp_hu (sp_safe (fun z => sp_many (kd, vd, K.2.1 0 3, nprow n k, n, cl) (K.1 0 9) (K.2.1 0 1) (K.2.1 0 2) nn z 0 0) (nI nn) 99 1) then sp_ord (fun k0 => sp_safe (fun z => sp_many (kd, vd, K.2.1 0 3, nprow n k0, n, cl) (K.1 0 9) (K.2.1 0 1) (K.2.1 0 2) nn z 0 0) (nI nn) 99 1) q' (k + 1) (nI L, kb) else sp_ord (fun k0 => sp_safe (fun z => sp_many (kd, vd, K.2.1 0 3, nprow n k0, n, cl) (K.1 0 9) (K.2.1 0 1) (K.2.1 0 2) nn z 0 0) (nI nn) 99 1) q' (k + 1) (sp_hu (sp_safe (fun z => sp_many (kd, vd, K.2.1 0 3, nprow n k, n, cl) (K.1 0 9) (K.2.1 0 1) (K.2.1 0 2) nn z 0 0) (nI nn) 99 1), k) := fun _ => rfl
    by_cases hal : a < L
    · rw [if_pos (nI_lt hal (by omega))]
      refine wp_istore (ls' := [_, _, _, _, _, _, _]) d_TC_order_102 (by decide) rfl ?_
      refine wp_iload d_TC_order_104 rfl ?_
      refine wp_iload d_TC_order_106 rfl ?_
      refine wp_icmp_ge (t := 130) d_TC_order_108 (by decide) (fun c_108 => absurd c_108 (nI_ge hal (by omega))) (fun c_108 => ?_)
      refine wp_iload d_TC_order_111 rfl ?_
      refine wp_istore (ls' := [_, _, _, _, _, _, _]) d_TC_order_113 (by decide) rfl ?_
      refine wp_aload_n d_TC_order_115 rfl rfl rfl ?_
      refine gK_4 (s := 2) (by decide) gf_TC_172_1 d_TC_order_116 ?_
      refine wp_iconst (v := 0) d_TC_order_119 rfl ?_
      refine wp_aload_n d_TC_order_120 rfl rfl rfl ?_
      refine gC_7 gf_TC_61_0 d_TC_order_121 ?_
      refine wp_iconst (v := 0) d_TC_order_124 rfl ?_
      refine wp_bipush (v := 6) d_TC_order_125 (by decide) ?_
      refine wp_copyi d_TC_order_127 w_757 (ht_lo (hc_a4 _ _ 2 (by decide))) ta_57 (by decide) (by decide) (by decide) (by decide) (by decide) (by omega) (Nat.le_of_ble_eq_true rfl) ts_57 ?_
      obtain ⟨K4, eK4⟩ : ∃ z, z = (kB K2 4 (va_up (K2.2.1 4) 3 (va_cpy (K2.2.1 2 4) (K2.2.1 4 3) ((0 : Int32).toNatClampNeg) ((0 : Int32).toNatClampNeg) ((6 : Int32).toNatClampNeg)))) := ⟨_, rfl⟩
      rw [← eK4]
      have hs4 : strt mn sc K K4 B (kd, vd, K.2.1 0 3, nprow n k, n, cl) (K.1 0 9) (K.2.1 0 1) (K.2.1 0 2) := by rw [eK4]; exact ⟨hs2.1.b 4 (by decide) _, hs2.2⟩
      have ha4 : hall mn (K4.2.2.1 2) n kd vd := by rw [eK4]; exact (show hall mn (K2.2.2.1 2) n kd vd from by rw [t3]; exact ha)
      have hb4 : ∀ p, p < n → K4.2.1 4 3 p = nI (nprow n k p) := by rw [eK4]; exact (fun p hp => (show va_cpy (K2.2.1 2 4) (K2.2.1 4 3) 0 0 6 p = _ from (cp_in (show p < 6 by omega)).trans (hs2.2.1.1.2.2 p hp).2.1))
      have hchk := npchk_ok n hn4 k (by omega) (by omega)
      unfold npchk at hchk
      have hln4 : ln_eq n (K4.2.1 2 4) (nprow n k) := fun p hp => ⟨(hs4.2.1.1.2.2 p hp).2.1, (hs4.2.1.1.2.2 p hp).1⟩
      have h84 : K4.1 2 8 = nI n := hs4.2.1.1.2.1
      refine wp_aload_n d_TC_order_130 rfl rfl rfl ?_
      refine toS 2 ?_
      refine wp_callV (r := (R_1, T_1, 15)) (M' := m_Si_lineUpNext) (as := []) (D' := D - 1) (C1 := 0) (C2 := 0) (S1 := 0) (S2 := 0) d_TC_order_131 rfl w_758 w_759 w_760 (ts_0 (by decide)) k_Si_lineUpNext (Nat.le_of_ble_eq_true rfl) rfl (Nat.le_of_ble_eq_true rfl) (by omega) rfl rfl ?_
      refine c_Si_lineUpNext (by omega) (by decide) (h84) (by omega) (l := nprow n k) (hln4) (fun hx => ?_) (fun l2 hx f2 hf2 => ?_)
      · skip
        refine wp_if_ne (t := 140) d_TC_order_134 (by decide) (fun c_134 => (absurd c_134 (by decide))) (fun c_134 => ?_)
        refine wp_goto (t := 146) d_TC_order_137 (by decide) ?_
        rw [hx] at hchk
        have hk1 : k + 1 = sp_fac n := of_decide_eq_true hchk
        have hq0 : True := trivial
        skip
        rw [ks_id]
        have hz : sp_ord (fun k0 => sp_safe (fun z => sp_many (kd, vd, K.2.1 0 3, nprow n k0, n, cl) (K.1 0 9) (K.2.1 0 1) (K.2.1 0 2) nn z 0 0) (nI nn) 99 1) (0 + 1) k (nI L, kb) = (nI a, k) := (hord _).trans (by rw [hae, if_neg (nI_ge hal (by omega))] <;> rfl)
        rw [hz] at kk
        exact l_TC_order_146 hn4 h7 hs4 hR2 hb4 kk
      · skip
        refine wp_if_ne (t := 140) d_TC_order_134 (by decide) (fun c_134 => ?_) (fun c_134 => (absurd c_134 (by decide)))
        refine wp_iinc (v := _ + 1) (ls' := [_, _, _, _, _, _, _]) d_TC_order_140 (by decide) rfl rfl rfl ?_
        refine wp_goto (t := 85) d_TC_order_143 (by decide) ?_
        rw [hx] at hchk
        obtain ⟨c1, c2⟩ := Bool.and_eq_true_iff.mp hchk
        have hk1 : k + 1 < sp_fac n := of_decide_eq_true c1
        have hl2 : ∀ p, p < n → l2 p = nprow n (k + 1) p := fun p hp => of_decide_eq_true (List.all_eq_true.mp c2 p (List.mem_range.mpr hp))
        exact absurd hk1 (by omega)
    · rw [if_neg (fun z => absurd z (nI_nlt (by omega) (by omega)))]
      refine wp_istore (ls' := [_, _, _, _, _, _, _]) d_TC_order_102 (by decide) rfl ?_
      refine wp_iload d_TC_order_104 rfl ?_
      refine wp_iload d_TC_order_106 rfl ?_
      refine wp_icmp_ge (t := 130) d_TC_order_108 (by decide) (fun c_108 => ?_) (fun c_108 => absurd (Int32.le_refl _) c_108)
      obtain ⟨K4, eK4⟩ : ∃ z, z = K2 := ⟨_, rfl⟩
      rw [← eK4]
      have hs4 : strt mn sc K K4 B (kd, vd, K.2.1 0 3, nprow n k, n, cl) (K.1 0 9) (K.2.1 0 1) (K.2.1 0 2) := by rw [eK4]; exact hs2
      have ha4 : hall mn (K4.2.2.1 2) n kd vd := by rw [eK4]; exact (show hall mn (K2.2.2.1 2) n kd vd from by rw [t3]; exact ha)
      have hb4 : ∀ p, p < n → K4.2.1 4 3 p = nI (nprow n kb p) := by rw [eK4]; exact (fun p hp => by rw [u2]; exact hbr p hp)
      have hchk := npchk_ok n hn4 k (by omega) (by omega)
      unfold npchk at hchk
      have hln4 : ln_eq n (K4.2.1 2 4) (nprow n k) := fun p hp => ⟨(hs4.2.1.1.2.2 p hp).2.1, (hs4.2.1.1.2.2 p hp).1⟩
      have h84 : K4.1 2 8 = nI n := hs4.2.1.1.2.1
      refine wp_aload_n d_TC_order_130 rfl rfl rfl ?_
      refine toS 2 ?_
      refine wp_callV (r := (R_1, T_1, 15)) (M' := m_Si_lineUpNext) (as := []) (D' := D - 1) (C1 := 0) (C2 := 0) (S1 := 0) (S2 := 0) d_TC_order_131 rfl w_758 w_759 w_760 (ts_0 (by decide)) k_Si_lineUpNext (Nat.le_of_ble_eq_true rfl) rfl (Nat.le_of_ble_eq_true rfl) (by omega) rfl rfl ?_
      refine c_Si_lineUpNext (by omega) (by decide) (h84) (by omega) (l := nprow n k) (hln4) (fun hx => ?_) (fun l2 hx f2 hf2 => ?_)
      · skip
        refine wp_if_ne (t := 140) d_TC_order_134 (by decide) (fun c_134 => (absurd c_134 (by decide))) (fun c_134 => ?_)
        refine wp_goto (t := 146) d_TC_order_137 (by decide) ?_
        rw [hx] at hchk
        have hk1 : k + 1 = sp_fac n := of_decide_eq_true hchk
        have hq0 : True := trivial
        skip
        rw [ks_id]
        have hz : sp_ord (fun k0 => sp_safe (fun z => sp_many (kd, vd, K.2.1 0 3, nprow n k0, n, cl) (K.1 0 9) (K.2.1 0 1) (K.2.1 0 2) nn z 0 0) (nI nn) 99 1) (0 + 1) k (nI L, kb) = (nI L, kb) := (hord _).trans (by rw [hae, if_pos (nI_le (by omega) (by omega))] <;> rfl)
        rw [hz] at kk
        exact l_TC_order_146 hn4 h7 hs4 hR2 hb4 kk
      · skip
        refine wp_if_ne (t := 140) d_TC_order_134 (by decide) (fun c_134 => ?_) (fun c_134 => (absurd c_134 (by decide)))
        refine wp_iinc (v := _ + 1) (ls' := [_, _, _, _, _, _, _]) d_TC_order_140 (by decide) rfl rfl rfl ?_
        refine wp_goto (t := 85) d_TC_order_143 (by decide) ?_
        rw [hx] at hchk
        obtain ⟨c1, c2⟩ := Bool.and_eq_true_iff.mp hchk
        have hk1 : k + 1 < sp_fac n := of_decide_eq_true c1
        have hl2 : ∀ p, p < n → l2 p = nprow n (k + 1) p := fun p hp => of_decide_eq_true (List.all_eq_true.mp c2 p (List.mem_range.mpr hp))
        exact absurd hk1 (by omega)
  | succ q ih =>
    intro k L kb K1 r1 hkq hL1 hL2 hs hR1 ha hbr kk
    refine wp_iload d_TC_order_85 rfl ?_
    refine wp_bipush (v := (nI 24)) d_TC_order_87 (by decide) ?_
    refine wp_icmp_ge (t := 146) d_TC_order_89 (by decide) (fun c_89 => absurd c_89 (nI_ge (by omega) (by omega))) (fun c_89 => ?_)
    refine wp_aload_n d_TC_order_92 rfl rfl rfl ?_
    refine gC_2 gf_TC_38_0 d_TC_order_93 ?_
    refine wp_iload_n d_TC_order_96 rfl rfl ?_
    refine wp_iload d_TC_order_97 rfl ?_
    refine wp_callV (r := (R_2, T_2, 6)) (M' := m_Tr_leastSafeBelow) (as := [_, _]) (D' := D - 1) (C1 := 0) (C2 := 0) (S1 := 0) (S2 := 0) d_TC_order_99 rfl w_733 w_734 w_735 tt_23 k_Tr_leastSafeBelow (Nat.le_of_ble_eq_true rfl) rfl (Nat.le_of_ble_eq_true rfl) (by omega) rfl rfl ?_
    refine c_lsb (by omega) hR1 hs hB (by omega) (by omega) (by omega) (fun K2 r2 hs2 hk3 hR2 => ?_)
    obtain ⟨t1, t2, t3, t4⟩ := hk3.1 2 (by decide)
    obtain ⟨u1, u2, u3, u4⟩ := hk3.1 4 (by decide)
    obtain ⟨a, ha1, ha2, hae⟩ := sp_hu_ge (g := (fun z => sp_many (kd, vd, K.2.1 0 3, nprow n k, n, cl) (K.1 0 9) (K.2.1 0 1) (K.2.1 0 2) nn z 0 0)) (n := nI nn) 99 1 rfl
    rw [lsb_hu hL2 (L - 1) 1 (by omega), show 100 - 1 = 99 from rfl, hae]
    have hord : ∀ q', sp_ord (fun k0 => sp_safe (fun z => sp_many (kd, vd, K.2.1 0 3, nprow n k0, n, cl) (K.1 0 9) (K.2.1 0 1) (K.2.1 0 2) nn z 0 0) (nI nn) 99 1) (q' + 1) k (nI L, kb) = if nI L ≤ sp_hu (sp_safe (fun z => sp_many (kd, vd, K.2.1 0 3, nprow n k, n, cl) (K.1 0 9) (K.2.1 0 1) (K.2.1 0 2) nn z 0 0) (nI nn) 99 1) then sp_ord (fun k0 => sp_safe (fun z => sp_many (kd, vd, K.2.1 0 3, nprow n k0, n, cl) (K.1 0 9) (K.2.1 0 1) (K.2.1 0 2) nn z 0 0) (nI nn) 99 1) q' (k + 1) (nI L, kb) else sp_ord (fun k0 => sp_safe (fun z => sp_many (kd, vd, K.2.1 0 3, nprow n k0, n, cl) (K.1 0 9) (K.2.1 0 1) (K.2.1 0 2) nn z 0 0) (nI nn) 99 1) q' (k + 1) (sp_hu (sp_safe (fun z => sp_many (kd, vd, K.2.1 0 3, nprow n k, n, cl) (K.1 0 9) (K.2.1 0 1) (K.2.1 0 2) nn z 0 0) (nI nn) 99 1), k) := fun _ => rfl
    by_cases hal : a < L
    · rw [if_pos (nI_lt hal (by omega))]
      refine wp_istore (ls' := [_, _, _, _, _, _, _]) d_TC_order_102 (by decide) rfl ?_
      refine wp_iload d_TC_order_104 rfl ?_
      refine wp_iload d_TC_order_106 rfl ?_
      refine wp_icmp_ge (t := 130) d_TC_order_108 (by decide) (fun c_108 => absurd c_108 (nI_ge hal (by omega))) (fun c_108 => ?_)
      refine wp_iload d_TC_order_111 rfl ?_
      refine wp_istore (ls' := [_, _, _, _, _, _, _]) d_TC_order_113 (by decide) rfl ?_
      refine wp_aload_n d_TC_order_115 rfl rfl rfl ?_
      refine gK_4 (s := 2) (by decide) gf_TC_172_1 d_TC_order_116 ?_
      refine wp_iconst (v := 0) d_TC_order_119 rfl ?_
      refine wp_aload_n d_TC_order_120 rfl rfl rfl ?_
      refine gC_7 gf_TC_61_0 d_TC_order_121 ?_
      refine wp_iconst (v := 0) d_TC_order_124 rfl ?_
      refine wp_bipush (v := 6) d_TC_order_125 (by decide) ?_
      refine wp_copyi d_TC_order_127 w_757 (ht_lo (hc_a4 _ _ 2 (by decide))) ta_57 (by decide) (by decide) (by decide) (by decide) (by decide) (by omega) (Nat.le_of_ble_eq_true rfl) ts_57 ?_
      obtain ⟨K4, eK4⟩ : ∃ z, z = (kB K2 4 (va_up (K2.2.1 4) 3 (va_cpy (K2.2.1 2 4) (K2.2.1 4 3) ((0 : Int32).toNatClampNeg) ((0 : Int32).toNatClampNeg) ((6 : Int32).toNatClampNeg)))) := ⟨_, rfl⟩
      rw [← eK4]
      have hs4 : strt mn sc K K4 B (kd, vd, K.2.1 0 3, nprow n k, n, cl) (K.1 0 9) (K.2.1 0 1) (K.2.1 0 2) := by rw [eK4]; exact ⟨hs2.1.b 4 (by decide) _, hs2.2⟩
      have ha4 : hall mn (K4.2.2.1 2) n kd vd := by rw [eK4]; exact (show hall mn (K2.2.2.1 2) n kd vd from by rw [t3]; exact ha)
      have hb4 : ∀ p, p < n → K4.2.1 4 3 p = nI (nprow n k p) := by rw [eK4]; exact (fun p hp => (show va_cpy (K2.2.1 2 4) (K2.2.1 4 3) 0 0 6 p = _ from (cp_in (show p < 6 by omega)).trans (hs2.2.1.1.2.2 p hp).2.1))
      have hchk := npchk_ok n hn4 k (by omega) (by omega)
      unfold npchk at hchk
      have hln4 : ln_eq n (K4.2.1 2 4) (nprow n k) := fun p hp => ⟨(hs4.2.1.1.2.2 p hp).2.1, (hs4.2.1.1.2.2 p hp).1⟩
      have h84 : K4.1 2 8 = nI n := hs4.2.1.1.2.1
      refine wp_aload_n d_TC_order_130 rfl rfl rfl ?_
      refine toS 2 ?_
      refine wp_callV (r := (R_1, T_1, 15)) (M' := m_Si_lineUpNext) (as := []) (D' := D - 1) (C1 := 0) (C2 := 0) (S1 := 0) (S2 := 0) d_TC_order_131 rfl w_758 w_759 w_760 (ts_0 (by decide)) k_Si_lineUpNext (Nat.le_of_ble_eq_true rfl) rfl (Nat.le_of_ble_eq_true rfl) (by omega) rfl rfl ?_
      refine c_Si_lineUpNext (by omega) (by decide) (h84) (by omega) (l := nprow n k) (hln4) (fun hx => ?_) (fun l2 hx f2 hf2 => ?_)
      · skip
        refine wp_if_ne (t := 140) d_TC_order_134 (by decide) (fun c_134 => (absurd c_134 (by decide))) (fun c_134 => ?_)
        refine wp_goto (t := 146) d_TC_order_137 (by decide) ?_
        rw [hx] at hchk
        have hk1 : k + 1 = sp_fac n := of_decide_eq_true hchk
        have hq0 : q + 1 = 0 := by omega
        exact absurd hq0 (by omega)
      · skip
        refine wp_if_ne (t := 140) d_TC_order_134 (by decide) (fun c_134 => ?_) (fun c_134 => (absurd c_134 (by decide)))
        refine wp_iinc (v := _ + 1) (ls' := [_, _, _, _, _, _, _]) d_TC_order_140 (by decide) rfl rfl rfl ?_
        refine wp_goto (t := 85) d_TC_order_143 (by decide) ?_
        rw [hx] at hchk
        obtain ⟨c1, c2⟩ := Bool.and_eq_true_iff.mp hchk
        have hk1 : k + 1 < sp_fac n := of_decide_eq_true c1
        have hl2 : ∀ p, p < n → l2 p = nprow n (k + 1) p := fun p hp => of_decide_eq_true (List.all_eq_true.mp c2 p (List.mem_range.mpr hp))
        have hs5 := hs4.ln (l2 := nprow n (k + 1)) (f := f2) ha4 (fun p hp => ⟨sp_pm_n hn4 hk1 hp, by rw [← hl2 p hp]; exact (hf2 p hp).1⟩)
        rw [show nI k + 1 = nI (k + 1) from nI_1 k]
        have hz : sp_ord (fun k0 => sp_safe (fun z => sp_many (kd, vd, K.2.1 0 3, nprow n k0, n, cl) (K.1 0 9) (K.2.1 0 1) (K.2.1 0 2) nn z 0 0) (nI nn) 99 1) (q + 1 + 1) k (nI L, kb) = sp_ord (fun k0 => sp_safe (fun z => sp_many (kd, vd, K.2.1 0 3, nprow n k0, n, cl) (K.1 0 9) (K.2.1 0 1) (K.2.1 0 2) nn z 0 0) (nI nn) 99 1) (q + 1) (k + 1) (nI a, k) := (hord _).trans (by rw [hae, if_neg (nI_ge hal (by omega))] <;> rfl)
        rw [hz] at kk
        refine wp_less (ls' := [some (.ref 0), some (.int (nI nn)), some (.int y), some (.ref (tc_p 2)), some (.int (nI a)), some (.int (nI (k + 1))), none]) ⟨rfl, rfl, rfl, rfl, rfl, rfl, trivial⟩ ?_
        exact ih (k + 1) a k _ r2 (by omega) (by omega) (by omega) hs5 hR2 ha4 hb4 kk
    · rw [if_neg (fun z => absurd z (nI_nlt (by omega) (by omega)))]
      refine wp_istore (ls' := [_, _, _, _, _, _, _]) d_TC_order_102 (by decide) rfl ?_
      refine wp_iload d_TC_order_104 rfl ?_
      refine wp_iload d_TC_order_106 rfl ?_
      refine wp_icmp_ge (t := 130) d_TC_order_108 (by decide) (fun c_108 => ?_) (fun c_108 => absurd (Int32.le_refl _) c_108)
      obtain ⟨K4, eK4⟩ : ∃ z, z = K2 := ⟨_, rfl⟩
      rw [← eK4]
      have hs4 : strt mn sc K K4 B (kd, vd, K.2.1 0 3, nprow n k, n, cl) (K.1 0 9) (K.2.1 0 1) (K.2.1 0 2) := by rw [eK4]; exact hs2
      have ha4 : hall mn (K4.2.2.1 2) n kd vd := by rw [eK4]; exact (show hall mn (K2.2.2.1 2) n kd vd from by rw [t3]; exact ha)
      have hb4 : ∀ p, p < n → K4.2.1 4 3 p = nI (nprow n kb p) := by rw [eK4]; exact (fun p hp => by rw [u2]; exact hbr p hp)
      have hchk := npchk_ok n hn4 k (by omega) (by omega)
      unfold npchk at hchk
      have hln4 : ln_eq n (K4.2.1 2 4) (nprow n k) := fun p hp => ⟨(hs4.2.1.1.2.2 p hp).2.1, (hs4.2.1.1.2.2 p hp).1⟩
      have h84 : K4.1 2 8 = nI n := hs4.2.1.1.2.1
      refine wp_aload_n d_TC_order_130 rfl rfl rfl ?_
      refine toS 2 ?_
      refine wp_callV (r := (R_1, T_1, 15)) (M' := m_Si_lineUpNext) (as := []) (D' := D - 1) (C1 := 0) (C2 := 0) (S1 := 0) (S2 := 0) d_TC_order_131 rfl w_758 w_759 w_760 (ts_0 (by decide)) k_Si_lineUpNext (Nat.le_of_ble_eq_true rfl) rfl (Nat.le_of_ble_eq_true rfl) (by omega) rfl rfl ?_
      refine c_Si_lineUpNext (by omega) (by decide) (h84) (by omega) (l := nprow n k) (hln4) (fun hx => ?_) (fun l2 hx f2 hf2 => ?_)
      · skip
        refine wp_if_ne (t := 140) d_TC_order_134 (by decide) (fun c_134 => (absurd c_134 (by decide))) (fun c_134 => ?_)
        refine wp_goto (t := 146) d_TC_order_137 (by decide) ?_
        rw [hx] at hchk
        have hk1 : k + 1 = sp_fac n := of_decide_eq_true hchk
        have hq0 : q + 1 = 0 := by omega
        exact absurd hq0 (by omega)
      · skip
        refine wp_if_ne (t := 140) d_TC_order_134 (by decide) (fun c_134 => ?_) (fun c_134 => (absurd c_134 (by decide)))
        refine wp_iinc (v := _ + 1) (ls' := [_, _, _, _, _, _, _]) d_TC_order_140 (by decide) rfl rfl rfl ?_
        refine wp_goto (t := 85) d_TC_order_143 (by decide) ?_
        rw [hx] at hchk
        obtain ⟨c1, c2⟩ := Bool.and_eq_true_iff.mp hchk
        have hk1 : k + 1 < sp_fac n := of_decide_eq_true c1
        have hl2 : ∀ p, p < n → l2 p = nprow n (k + 1) p := fun p hp => of_decide_eq_true (List.all_eq_true.mp c2 p (List.mem_range.mpr hp))
        have hs5 := hs4.ln (l2 := nprow n (k + 1)) (f := f2) ha4 (fun p hp => ⟨sp_pm_n hn4 hk1 hp, by rw [← hl2 p hp]; exact (hf2 p hp).1⟩)
        rw [show nI k + 1 = nI (k + 1) from nI_1 k]
        have hz : sp_ord (fun k0 => sp_safe (fun z => sp_many (kd, vd, K.2.1 0 3, nprow n k0, n, cl) (K.1 0 9) (K.2.1 0 1) (K.2.1 0 2) nn z 0 0) (nI nn) 99 1) (q + 1 + 1) k (nI L, kb) = sp_ord (fun k0 => sp_safe (fun z => sp_many (kd, vd, K.2.1 0 3, nprow n k0, n, cl) (K.1 0 9) (K.2.1 0 1) (K.2.1 0 2) nn z 0 0) (nI nn) 99 1) (q + 1) (k + 1) (nI L, kb) := (hord _).trans (by rw [hae, if_pos (nI_le (by omega) (by omega))] <;> rfl)
        rw [hz] at kk
        refine wp_less (ls' := [some (.ref 0), some (.int (nI nn)), some (.int y), some (.ref (tc_p 2)), some (.int (nI L)), some (.int (nI (k + 1))), none]) ⟨rfl, rfl, rfl, rfl, rfl, rfl, trivial⟩ ?_
        exact ih (k + 1) L kb _ r2 (by omega) (by omega) (by omega) hs5 hR2 ha4 hb4 kk
set_option maxRecDepth 4000 in
theorem c_TC_order {n : Nat} {kd vd : Nat → Int32} {ln : Nat → Nat} {cl : List sp_Cl} {x y : Int32} (hD : 12 ≤ D) (hR : tc_R mn sc MZ r) (hst : st_ok mn sc K 0 n B kd vd ln cl) (hB : B ≤ 20000) (h7 : K.1 0 7 = nI n) (hal : hall mn (K.2.2.1 0) n kd vd) (kn : ¬ (-1 ≤ y ∧ y ≤ 3) → Q (some (.int (-1))) (HT K MZ r)) (kb : (-1 ≤ y ∧ y ≤ 3) → ¬ (1 ≤ x ∧ x ≤ 8) → Q (some (.int (-2))) (HT K MZ r)) (k4 : (-1 ≤ y ∧ y ≤ 3) → (1 ≤ x ∧ x ≤ 8) → ¬ n < 5 → Q (some (.int (-9))) (HT K MZ r)) (kk : (-1 ≤ y ∧ y ≤ 3) → (1 ≤ x ∧ x ≤ 8) → n < 5 → ∀ nn, nn ≤ 8 → x = nI nn → ∀ K2 (r2 : tc_r), tk [2, 3, 4] K K2 → tc_R mn sc MZ r2 → Q (some (.int (if y < 0 then (if 99 < (sp_ord (fun k0 => sp_safe (fun z => sp_many (kd, vd, K.2.1 0 3, nprow n k0, n, cl) (K.1 0 9) (K.2.1 0 1) (K.2.1 0 2) nn z 0 0) (nI nn) 99 1) (sp_fac n) 0 (nI 100, 0)).1 then -5 else (sp_ord (fun k0 => sp_safe (fun z => sp_many (kd, vd, K.2.1 0 3, nprow n k0, n, cl) (K.1 0 9) (K.2.1 0 1) (K.2.1 0 2) nn z 0 0) (nI nn) 99 1) (sp_fac n) 0 (nI 100, 0)).1) else if y < nI n then nI (nprow n (sp_ord (fun k0 => sp_safe (fun z => sp_many (kd, vd, K.2.1 0 3, nprow n k0, n, cl) (K.1 0 9) (K.2.1 0 1) (K.2.1 0 2) nn z 0 0) (nI nn) 99 1) (sp_fac n) 0 (nI 100, 0)).2 y.toNatClampNeg) else -5))) (HT K2 MZ r2)) : px_W G D 0 0 m_TC_order 0 (px_ent 7 [.ref 0, .int x, .int y]) [] (HT K MZ r) Q := by
  show px_W _ _ _ _ _ _ [some (.ref 0), some (.int x), some (.int y), none, none, none, none] [] _ _
  refine wp_iload_n d_TC_order_0 rfl rfl ?_
  refine wp_iconst (v := (-1)) d_TC_order_1 rfl ?_
  refine wp_icmp_lt (t := 10) d_TC_order_2 (by decide) (fun c_2 => ?_) (fun c_2 => ?_)
  · skip
    refine wp_iconst (v := (-1)) d_TC_order_10 rfl ?_
    refine wp_ireturn d_TC_order_11 rfl rfl ?_
    first
      | exact kn (fun z => absurd z.1 (Int32.not_le.mpr c_2))
      | exact kn (fun z => c_7 ((i_lt (a := 4) (b := 3) rfl).mpr z.2))
  · skip
    refine wp_iload_n d_TC_order_5 rfl rfl ?_
    refine wp_iconst (v := 4) d_TC_order_6 rfl ?_
    refine wp_icmp_lt (t := 12) d_TC_order_7 (by decide) (fun c_7 => ?_) (fun c_7 => ?_)
    · skip
      refine wp_iload_n d_TC_order_12 rfl rfl ?_
      refine wp_iconst (v := 1) d_TC_order_13 rfl ?_
      refine wp_icmp_lt (t := 23) d_TC_order_14 (by decide) (fun c_14 => ?_) (fun c_14 => ?_)
      · skip
        refine wp_bipush (v := (-2)) d_TC_order_23 (by decide) ?_
        refine wp_ireturn d_TC_order_25 rfl rfl ?_
        first
          | exact kb ⟨Int32.not_lt.mp c_2, (i_lt (a := 4) (b := 3) rfl).mp c_7⟩ (fun z => absurd z.1 (Int32.not_le.mpr c_14))
          | exact kb ⟨Int32.not_lt.mp c_2, (i_lt (a := 4) (b := 3) rfl).mp c_7⟩ (fun z => c_20 z.2)
      · skip
        refine wp_iload_n d_TC_order_17 rfl rfl ?_
        refine wp_bipush (v := 8) d_TC_order_18 (by decide) ?_
        refine wp_icmp_le (t := 26) d_TC_order_20 (by decide) (fun c_20 => ?_) (fun c_20 => ?_)
        · skip
          have hy : -1 ≤ y ∧ y ≤ 3 := ⟨Int32.not_lt.mp c_2, (i_lt (a := 4) (b := 3) rfl).mp c_7⟩
          have hx : 1 ≤ x ∧ x ≤ 8 := ⟨Int32.not_lt.mp c_14, c_20⟩
          obtain ⟨nn, hn8, rfl⟩ := sp_n1 (M := 8) (N := 8) rfl hx
          refine wp_aload_n d_TC_order_26 rfl rfl rfl ?_
          refine gC_0 gf_TC_24_0 d_TC_order_27 ?_
          refine gK_7 (s := 0) (by decide) gf_TC_67_1 d_TC_order_30 ?_
          refine wp_iconst (v := 4) d_TC_order_33 rfl ?_
          rw [h7]
          refine wp_icmp_le (t := 40) d_TC_order_34 (by decide) (fun c_34 => ?_) (fun c_34 => ?_)
          · skip
            refine wp_aload_n d_TC_order_40 rfl rfl rfl ?_
            refine gC_2 gf_TC_38_0 d_TC_order_41 ?_
            refine wp_aload_n d_TC_order_44 rfl rfl rfl ?_
            refine gC_0 gf_TC_24_0 d_TC_order_45 ?_
            refine wp_callV (r := (R_2, T_2, 6)) (M' := m_Tr_startFrom) (as := [_]) (D' := D - 1) (C1 := 0) (C2 := 0) (S1 := 0) (S2 := 0) d_TC_order_48 rfl w_704 w_705 w_706 tt_23 k_Tr_startFrom (Nat.le_of_ble_eq_true rfl) rfl (Nat.le_of_ble_eq_true rfl) (by omega) rfl rfl ?_
            refine c_Tr_startFrom (by omega) (by decide) (by decide) hR hst (fun j2 b2 w2 hcp => ?_)
            refine wp_aload_n d_TC_order_51 rfl rfl rfl ?_
            refine gC_2 gf_TC_38_0 d_TC_order_52 ?_
            refine gR_0 gf_TC_206_2 d_TC_order_55 ?_
            refine wp_astore_n (ls' := [_, _, _, _, _, _, _]) d_TC_order_58 rfl (by decide) rfl rfl ?_
            refine wp_aload_n d_TC_order_59 rfl rfl rfl ?_
            refine toS 2 ?_
            refine wp_callV (r := (R_1, T_1, 15)) (M' := m_Si_lineUpByNumber) (as := []) (D' := D - 1) (C1 := 0) (C2 := 0) (S1 := 0) (S2 := 0) d_TC_order_60 rfl w_753 w_754 w_755 (ts_0 (by decide)) k_Si_lineUpByNumber (Nat.le_of_ble_eq_true rfl) rfl (Nat.le_of_ble_eq_true rfl) (by omega) rfl rfl ?_
            refine c_Si_lineUpByNumber (by omega) (by decide) (show j2 8 = nI n from (hcp.1 8 (by decide) (by decide)).trans hst.1.2.1) hst.1.1 ?_
            refine wp_aload_n d_TC_order_63 rfl rfl rfl ?_
            refine gK_4 (s := 2) (by decide) gf_TC_172_1 d_TC_order_64 ?_
            refine wp_iconst (v := 0) d_TC_order_67 rfl ?_
            refine wp_aload_n d_TC_order_68 rfl rfl rfl ?_
            refine gC_7 gf_TC_61_0 d_TC_order_69 ?_
            refine wp_iconst (v := 0) d_TC_order_72 rfl ?_
            refine wp_bipush (v := 6) d_TC_order_73 (by decide) ?_
            refine wp_copyi d_TC_order_75 w_757 (ht_lo (hc_a4 _ _ 2 (by decide))) ta_57 (by decide) (by decide) (by decide) (by decide) (by decide) (by omega) (Nat.le_of_ble_eq_true rfl) ts_57 ?_
            refine wp_bipush (v := (nI 100)) d_TC_order_78 (by decide) ?_
            refine wp_istore (ls' := [_, _, _, _, _, _, _]) d_TC_order_80 (by decide) rfl ?_
            refine wp_iconst (v := (nI 0)) d_TC_order_82 rfl ?_
            refine wp_istore (ls' := [_, _, _, _, _, _, _]) d_TC_order_83 (by decide) rfl ?_
            have hn4 : n < 5 := by
              have := (nI_leI (b := 4) (by have := hst.1.1; omega) (by decide)).mp c_34
              omega
            have hfa := (sp_fac_24 n hn4).2
            obtain ⟨K0, eK0⟩ : ∃ z, z = ks K 2 j2 b2 w2 (K.2.2.2.1 0) := ⟨_, rfl⟩
            have hs0 : strt mn sc K K0 B (kd, vd, K.2.1 0 3, ln, n, cl) (K.1 0 9) (K.2.1 0 1) (K.2.1 0 2) := by rw [eK0]; exact ⟨(tk.rf.s 2 (by decide) j2 b2 w2 _), st_ok.cp (s := 2) hst hcp, hcp.2.2.2.1, hcp.1 9 (by decide) (by decide), fun m hm => (hcp.2.2.1 m hm).1, fun m hm => (hcp.2.2.1 m hm).2.1⟩
            have hn6 := hst.1.1
            have ha0 : hall mn (K0.2.2.1 2) n kd vd := fun m hm => by
              obtain ⟨pm, k0, v0, e1, e2⟩ := hal m hm
              exact ⟨pm, k0, v0, by rw [eK0]; exact (hcp.2.2.2.2.2.2 m (by omega)).trans e1, e2⟩
            have hs1 := hs0.ln (l2 := nprow n 0) (f := sp_cnt (K0.2.1 2 4) n) ha0 (fun p hp => ⟨sp_pm_n hn4 hfa hp, by rw [nprow_0 n hn4 p hp]; exact if_pos hp⟩)
            rw [← eK0]
            refine l_TC_order_85 (by omega) hn4 h7 hB (by omega) (sp_fac n - 1) 0 100 0 _ r (by omega) (by decide) (by decide) ⟨hs1.1.b 4 (by decide) _, hs1.2⟩ hR ha0 (fun p hp => ?_) (by rw [show sp_fac n - 1 + 1 = sp_fac n by omega]; exact kk hy hx hn4 nn hn8 rfl)
            show va_cpy (sp_cnt (K0.2.1 2 4) n) _ 0 0 6 p = nI (nprow n 0 p)
            rw [cp_in (show p < 6 by omega), nprow_0 n hn4 p hp]
            exact if_pos hp
          · skip
            refine wp_bipush (v := (-9)) d_TC_order_37 (by decide) ?_
            refine wp_ireturn d_TC_order_39 rfl rfl ?_
            exact k4 hy hx (fun z => c_34 (nI_le (b := 4) (by omega) (by decide)))
        · skip
          refine wp_bipush (v := (-2)) d_TC_order_23 (by decide) ?_
          refine wp_ireturn d_TC_order_25 rfl rfl ?_
          first
            | exact kb ⟨Int32.not_lt.mp c_2, (i_lt (a := 4) (b := 3) rfl).mp c_7⟩ (fun z => absurd z.1 (Int32.not_le.mpr c_14))
            | exact kb ⟨Int32.not_lt.mp c_2, (i_lt (a := 4) (b := 3) rfl).mp c_7⟩ (fun z => c_20 z.2)
    · skip
      refine wp_iconst (v := (-1)) d_TC_order_10 rfl ?_
      refine wp_ireturn d_TC_order_11 rfl rfl ?_
      first
        | exact kn (fun z => absurd z.1 (Int32.not_le.mpr c_2))
        | exact kn (fun z => c_7 ((i_lt (a := 4) (b := 3) rfl).mpr z.2))
end TDI
