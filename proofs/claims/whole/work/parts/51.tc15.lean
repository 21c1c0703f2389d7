theorem sp_lsb_safe {g : Int32 → Int32} {n : Int32} : ∀ (q b : Nat), b + q = 100 → (if (99 : Int32) < sp_lsb g n q b then -5 else sp_lsb g n q b) = sp_safe g n q b := by
  intro q
  induction q with
  | zero =>
    intro b hb
    have e : b = 100 := by omega
    subst e
    rfl
  | succ q ih =>
    intro b hb
    rw [sp_lsb, sp_safe]
    by_cases h : g (nI b) = n
    · rw [if_pos h, if_pos h, if_neg (show ¬ (99 : Int32) < nI b from fun z => by
        have := (nI_ltI (a := 99) (by decide) (by omega)).mp z
        omega)]
    · rw [if_neg h, if_neg h]
      exact ih (b + 1) (by omega)
def sp_slc (S : sp_St) (held : Nat → Int32) : Nat → Nat → Int32 → Int32 → Int32
  | 0, _, w, _ => w
  | q + 1, p, w, most => if most < sp_hold S held p then sp_slc S held q (p + 1) (nI (S.2.2.2.1 p)) (sp_hold S held p) else sp_slc S held q (p + 1) w most
theorem sp_best_c {g m l s : Int32} : ((m < g) ∨ (g = m ∧ l < s)) ↔ ¬ (g < m ∨ (g = m ∧ s ≤ l)) := by
  constructor
  · rintro (h | ⟨h1, h2⟩) (k | ⟨k1, k2⟩)
    · exact absurd (Int32.lt_trans h k) Int32.lt_irrefl
    · rw [k1] at h; exact absurd h Int32.lt_irrefl
    · rw [h1] at k; exact absurd k Int32.lt_irrefl
    · exact absurd h2 (Int32.not_lt.mpr k2)
  · intro h
    by_cases k : m < g
    · exact Or.inl k
    · by_cases e : g = m
      · exact Or.inr ⟨e, Int32.not_le.mp fun z => h (Or.inr ⟨e, z⟩)⟩
      · exact absurd (Or.inl (Int32.lt_of_le_of_ne (Int32.not_lt.mp k) e)) h
section TDE
variable {G : px_G} {D : Nat} {K K1 : tc_K} {MZ h : px_H} {r r1 : tc_r} {Q : Option Value → px_H → Prop} {mn : tc_mn} {sc : tc_sc} {B : Nat} {S : sp_St} {t0 : Int32} {hl fr : Nat → Int32}
set_option maxRecDepth 4000 in
theorem c_TC_safe {n : Nat} {kd vd : Nat → Int32} {ln : Nat → Nat} {cl : List sp_Cl} {x : Int32} (hD : 10 ≤ D) (hR : tc_R mn sc MZ r) (hst : st_ok mn sc K 0 n B kd vd ln cl) (hB : B ≤ 20000) (kb : ¬ (1 ≤ x ∧ x ≤ 20) → Q (some (.int (-2))) (HT K MZ r)) (kk : (1 ≤ x ∧ x ≤ 20) → ∀ nn, nn ≤ 20 → x = nI nn → ∀ K2 (r2 : tc_r), tk [2, 3, 4] K K2 → tc_R mn sc MZ r2 → Q (some (.int (sp_safe (fun z => (sp_many (kd, vd, K.2.1 0 3, ln, n, cl) (K.1 0 9) (K.2.1 0 1) (K.2.1 0 2) nn z 0 0)) (nI nn) 99 1))) (HT K2 MZ r2)) : px_W G D 0 0 m_TC_safe 0 (px_ent 3 [.ref 0, .int x]) [] (HT K MZ r) Q := by
  show px_W _ _ _ _ _ _ [some (.ref 0), some (.int x), none] [] _ _
  refine wp_iload_n d_TC_safe_0 rfl rfl ?_
  refine wp_iconst (v := 1) d_TC_safe_1 rfl ?_
  refine wp_icmp_lt (t := 11) d_TC_safe_2 (by decide) (fun c_2 => ?_) (fun c_2 => ?_)
  · skip
    refine wp_bipush (v := (-2)) d_TC_safe_11 (by decide) ?_
    refine wp_ireturn d_TC_safe_13 rfl rfl ?_
    first
      | exact kb (fun z => absurd z.1 (Int32.not_le.mpr c_2))
      | exact kb (fun z => c_8 z.2)
  · skip
    refine wp_iload_n d_TC_safe_5 rfl rfl ?_
    refine wp_bipush (v := 20) d_TC_safe_6 (by decide) ?_
    refine wp_icmp_le (t := 14) d_TC_safe_8 (by decide) (fun c_8 => ?_) (fun c_8 => ?_)
    · skip
      have hx : 1 ≤ x ∧ x ≤ 20 := ⟨Int32.not_lt.mp c_2, c_8⟩
      obtain ⟨nn, hn20, rfl⟩ := sp_n1 (M := 20) (N := 20) rfl hx
      refine wp_aload_n d_TC_safe_14 rfl rfl rfl ?_
      refine gC_2 gf_TC_38_0 d_TC_safe_15 ?_
      refine wp_aload_n d_TC_safe_18 rfl rfl rfl ?_
      refine gC_0 gf_TC_24_0 d_TC_safe_19 ?_
      refine wp_callV (r := (R_2, T_2, 6)) (M' := m_Tr_startFrom) (as := [_]) (D' := D - 1) (C1 := 0) (C2 := 0) (S1 := 0) (S2 := 0) d_TC_safe_22 rfl w_704 w_705 w_706 tt_23 k_Tr_startFrom (Nat.le_of_ble_eq_true rfl) rfl (Nat.le_of_ble_eq_true rfl) (by omega) rfl rfl ?_
      refine c_st (by omega) hR hst (fun K1 hs hj2 hk2 => ?_)
      refine wp_aload_n d_TC_safe_25 rfl rfl rfl ?_
      refine gC_2 gf_TC_38_0 d_TC_safe_26 ?_
      refine wp_iload_n d_TC_safe_29 rfl rfl ?_
      refine wp_bipush (v := (nI 100)) d_TC_safe_30 (by decide) ?_
      refine wp_callV (r := (R_2, T_2, 6)) (M' := m_Tr_leastSafeBelow) (as := [_, _]) (D' := D - 1) (C1 := 0) (C2 := 0) (S1 := 0) (S2 := 0) d_TC_safe_32 rfl w_733 w_734 w_735 tt_23 k_Tr_leastSafeBelow (Nat.le_of_ble_eq_true rfl) rfl (Nat.le_of_ble_eq_true rfl) (by omega) rfl rfl ?_
      refine c_lsb (by omega) hR hs hB (by omega) (by decide) (by decide) (fun K2 r2 hs2 hk3 hR2 => ?_)
      refine wp_istore_n (ls' := [_, _, _]) d_TC_safe_35 rfl (by decide) rfl ?_
      refine wp_iload_n d_TC_safe_36 rfl rfl ?_
      refine wp_bipush (v := 99) d_TC_safe_37 (by decide) ?_
      refine wp_icmp_le (t := 47) d_TC_safe_39 (by decide) (fun c_39 => ?_) (fun c_39 => ?_)
      · skip
        refine wp_iload_n d_TC_safe_47 rfl rfl ?_
        refine wp_ireturn d_TC_safe_48 rfl rfl ?_
        have k2 := kk hx nn hn20 rfl K2 r2 hs2.1 hR2
        rw [← sp_lsb_safe 99 1 rfl] at k2
        rw [if_neg (Int32.not_lt.mpr c_39)] at k2
        exact k2
      · skip
        refine wp_bipush (v := (-5)) d_TC_safe_42 (by decide) ?_
        refine wp_goto (t := 48) d_TC_safe_44 (by decide) ?_
        refine wp_ireturn d_TC_safe_48 rfl rfl ?_
        have k2 := kk hx nn hn20 rfl K2 r2 hs2.1 hR2
        rw [← sp_lsb_safe 99 1 rfl] at k2
        rw [if_pos (Int32.not_le.mp c_39)] at k2
        exact k2
    · skip
      refine wp_bipush (v := (-2)) d_TC_safe_11 (by decide) ?_
      refine wp_ireturn d_TC_safe_13 rfl rfl ?_
      first
        | exact kb (fun z => absurd z.1 (Int32.not_le.mpr c_2))
        | exact kb (fun z => c_8 z.2)
set_option maxRecDepth 4000 in
theorem l_TC_best_47 {n : Nat} {kd vd : Nat → Int32} {ln : Nat → Nat} {cl : List sp_Cl} {nn : Nat} {y : Int32} (hD : 10 ≤ D) (hB : B ≤ 20000) (hn30 : nn ≤ 30) : ∀ (q b : Nat) (bb mo so : Int32) (K1 : tc_K) (r1 : tc_r), b + q = 100 → strt mn sc K K1 B (kd, vd, K.2.1 0 3, ln, n, cl) (K.1 0 9) (K.2.1 0 1) (K.2.1 0 2) → tc_R mn sc MZ r1 → (∀ K2 (r2 : tc_r), strt mn sc K K2 B (kd, vd, K.2.1 0 3, ln, n, cl) (K.1 0 9) (K.2.1 0 1) (K.2.1 0 2) → tc_R mn sc MZ r2 → Q (some (.int (if y = 0 then (sp_best (fun z => (sp_many (kd, vd, K.2.1 0 3, ln, n, cl) (K.1 0 9) (K.2.1 0 1) (K.2.1 0 2) nn z 0 0)) (fun z => (sp_lat (kd, vd, K.2.1 0 3, ln, n, cl) (K.1 0 9) (K.2.1 0 1) (K.2.1 0 2) nn z 0 0)) q b (bb, mo, so)).1 else (sp_best (fun z => (sp_many (kd, vd, K.2.1 0 3, ln, n, cl) (K.1 0 9) (K.2.1 0 1) (K.2.1 0 2) nn z 0 0)) (fun z => (sp_lat (kd, vd, K.2.1 0 3, ln, n, cl) (K.1 0 9) (K.2.1 0 1) (K.2.1 0 2) nn z 0 0)) q b (bb, mo, so)).2.1))) (HT K2 MZ r2)) → px_W G D 0 0 m_TC_best 47 [some (.ref 0), some (.int (nI nn)), some (.int y), some (.int bb), some (.int mo), some (.int so), some (.int (nI b))] [] (HT K1 MZ r1) Q := by
  intro q
  induction q with
  | zero =>
    intro b bb mo so K1 r1 hbq hs hR1 kk
    refine wp_iload d_TC_best_47 rfl ?_
    refine wp_bipush (v := (nI 99)) d_TC_best_49 (by decide) ?_
    refine wp_icmp_gt (t := 127) d_TC_best_51 (by decide) (fun c_51 => ?_) (fun c_51 => absurd (nI_lt (by omega) (by omega)) c_51)
    refine wp_iload_n d_TC_best_127 rfl rfl ?_
    refine wp_if_ne (t := 135) d_TC_best_128 (by decide) (fun c_128 => ?_) (fun c_128 => ?_)
    · skip
      refine wp_iload d_TC_best_135 rfl ?_
      refine wp_ireturn d_TC_best_137 rfl rfl ?_
      first
        | (rw [if_pos c_128] at kk; exact kk K1 r1 hs hR1)
        | (rw [if_neg c_128] at kk; exact kk K1 r1 hs hR1)
    · skip
      refine wp_iload_n d_TC_best_131 rfl rfl ?_
      refine wp_goto (t := 137) d_TC_best_132 (by decide) ?_
      refine wp_ireturn d_TC_best_137 rfl rfl ?_
      first
        | (rw [if_pos c_128] at kk; exact kk K1 r1 hs hR1)
        | (rw [if_neg c_128] at kk; exact kk K1 r1 hs hR1)
  | succ q ih =>
    intro b bb mo so K1 r1 hbq hs hR1 kk
    refine wp_iload d_TC_best_47 rfl ?_
    refine wp_bipush (v := (nI 99)) d_TC_best_49 (by decide) ?_
    refine wp_icmp_gt (t := 127) d_TC_best_51 (by decide) (fun c_51 => absurd c_51 (Int32.not_lt.mpr (nI_le (by omega) (by decide)))) (fun c_51 => ?_)
    refine wp_aload_n d_TC_best_54 rfl rfl rfl ?_
    refine gC_2 gf_TC_38_0 d_TC_best_55 ?_
    refine wp_iload_n d_TC_best_58 rfl rfl ?_
    refine wp_iload d_TC_best_59 rfl ?_
    refine wp_callV (r := (R_2, T_2, 6)) (M' := m_Tr_throwTubes) (as := [_, _]) (D' := D - 1) (C1 := 0) (C2 := 0) (S1 := 0) (S2 := 0) d_TC_best_61 rfl w_712 w_713 w_714 tt_23 k_Tr_throwTubes (Nat.le_of_ble_eq_true rfl) rfl (Nat.le_of_ble_eq_true rfl) (by omega) rfl rfl ?_
    refine c_tt (by omega) hR1 hs (by omega) (by omega) (fun K2 r2 hs2 hR2 m1 m2 m3 m4 => ?_)
    have hbs : sp_best (fun z => (sp_many (kd, vd, K.2.1 0 3, ln, n, cl) (K.1 0 9) (K.2.1 0 1) (K.2.1 0 2) nn z 0 0)) (fun z => (sp_lat (kd, vd, K.2.1 0 3, ln, n, cl) (K.1 0 9) (K.2.1 0 1) (K.2.1 0 2) nn z 0 0)) (q + 1) b (bb, mo, so) = if ((sp_many (kd, vd, K.2.1 0 3, ln, n, cl) (K.1 0 9) (K.2.1 0 1) (K.2.1 0 2) nn (nI b) 0 0) < mo ∨ ((sp_many (kd, vd, K.2.1 0 3, ln, n, cl) (K.1 0 9) (K.2.1 0 1) (K.2.1 0 2) nn (nI b) 0 0) = mo ∧ so ≤ (sp_lat (kd, vd, K.2.1 0 3, ln, n, cl) (K.1 0 9) (K.2.1 0 1) (K.2.1 0 2) nn (nI b) 0 0))) then sp_best (fun z => (sp_many (kd, vd, K.2.1 0 3, ln, n, cl) (K.1 0 9) (K.2.1 0 1) (K.2.1 0 2) nn z 0 0)) (fun z => (sp_lat (kd, vd, K.2.1 0 3, ln, n, cl) (K.1 0 9) (K.2.1 0 1) (K.2.1 0 2) nn z 0 0)) q (b + 1) (bb, mo, so) else sp_best (fun z => (sp_many (kd, vd, K.2.1 0 3, ln, n, cl) (K.1 0 9) (K.2.1 0 1) (K.2.1 0 2) nn z 0 0)) (fun z => (sp_lat (kd, vd, K.2.1 0 3, ln, n, cl) (K.1 0 9) (K.2.1 0 1) (K.2.1 0 2) nn z 0 0)) q (b + 1) (nI b, (sp_many (kd, vd, K.2.1 0 3, ln, n, cl) (K.1 0 9) (K.2.1 0 1) (K.2.1 0 2) nn (nI b) 0 0), (sp_lat (kd, vd, K.2.1 0 3, ln, n, cl) (K.1 0 9) (K.2.1 0 1) (K.2.1 0 2) nn (nI b) 0 0)) := rfl
    rw [hbs] at kk
    refine wp_aload_n d_TC_best_64 rfl rfl rfl ?_
    refine gC_2 gf_TC_38_0 d_TC_best_65 ?_
    refine gR_3 gf_TC_192_2 d_TC_best_68 ?_
    refine wp_iload d_TC_best_71 rfl ?_
    refine wp_icmp_gt (t := 100) d_TC_best_73 (by decide) (fun c_73 => ?_) (fun c_73 => ?_)
    · skip
      refine wp_iload d_TC_best_100 rfl ?_
      refine wp_istore_n (ls' := [_, _, _, _, _, _, _]) d_TC_best_102 rfl (by decide) rfl ?_
      refine wp_aload_n d_TC_best_103 rfl rfl rfl ?_
      refine gC_2 gf_TC_38_0 d_TC_best_104 ?_
      refine gR_3 gf_TC_192_2 d_TC_best_107 ?_
      refine wp_istore (ls' := [_, _, _, _, _, _, _]) d_TC_best_110 (by decide) rfl ?_
      refine wp_aload_n d_TC_best_112 rfl rfl rfl ?_
      refine gC_2 gf_TC_38_0 d_TC_best_113 ?_
      refine gR_4 gf_TC_193_2 d_TC_best_116 ?_
      refine wp_istore (ls' := [_, _, _, _, _, _, _]) d_TC_best_119 (by decide) rfl ?_
      refine wp_iinc (v := _ + 1) (ls' := [_, _, _, _, _, _, _]) d_TC_best_121 (by decide) rfl rfl rfl ?_
      refine wp_goto (t := 47) d_TC_best_124 (by decide) ?_
      rw [show nI b + 1 = nI (b + 1) from nI_1 b]
      first
        | (have hc : ¬ ((sp_many (kd, vd, K.2.1 0 3, ln, n, cl) (K.1 0 9) (K.2.1 0 1) (K.2.1 0 2) nn (nI b) 0 0) < mo ∨ ((sp_many (kd, vd, K.2.1 0 3, ln, n, cl) (K.1 0 9) (K.2.1 0 1) (K.2.1 0 2) nn (nI b) 0 0) = mo ∧ so ≤ (sp_lat (kd, vd, K.2.1 0 3, ln, n, cl) (K.1 0 9) (K.2.1 0 1) (K.2.1 0 2) nn (nI b) 0 0))) := sp_best_c.mp (by rw [← m1, ← m2]; first | exact Or.inl c_73 | exact Or.inr ⟨c_85, Int32.not_le.mp c_97⟩)
           rw [if_neg hc] at kk
           rw [m1, m2]
           exact ih (b + 1) _ _ _ K2 r2 (by omega) hs2 hR2 kk)
        | (have hc : ((sp_many (kd, vd, K.2.1 0 3, ln, n, cl) (K.1 0 9) (K.2.1 0 1) (K.2.1 0 2) nn (nI b) 0 0) < mo ∨ ((sp_many (kd, vd, K.2.1 0 3, ln, n, cl) (K.1 0 9) (K.2.1 0 1) (K.2.1 0 2) nn (nI b) 0 0) = mo ∧ so ≤ (sp_lat (kd, vd, K.2.1 0 3, ln, n, cl) (K.1 0 9) (K.2.1 0 1) (K.2.1 0 2) nn (nI b) 0 0))) := Decidable.of_not_not (fun z => by
             have z2 := sp_best_c.mpr z
             rw [← m1, ← m2] at z2
             rcases z2 with z2 | ⟨z2, z3⟩
             · exact c_73 z2
             · first | exact c_85 z2 | exact absurd z3 (Int32.not_lt.mpr c_97))
           rw [if_pos hc] at kk
           exact ih (b + 1) _ _ _ K2 r2 (by omega) hs2 hR2 kk)
    · skip
      refine wp_aload_n d_TC_best_76 rfl rfl rfl ?_
      refine gC_2 gf_TC_38_0 d_TC_best_77 ?_
      refine gR_3 gf_TC_192_2 d_TC_best_80 ?_
      refine wp_iload d_TC_best_83 rfl ?_
      refine wp_icmp_ne (t := 121) d_TC_best_85 (by decide) (fun c_85 => ?_) (fun c_85 => ?_)
      · skip
        refine wp_iinc (v := _ + 1) (ls' := [_, _, _, _, _, _, _]) d_TC_best_121 (by decide) rfl rfl rfl ?_
        refine wp_goto (t := 47) d_TC_best_124 (by decide) ?_
        rw [show nI b + 1 = nI (b + 1) from nI_1 b]
        first
          | (have hc : ¬ ((sp_many (kd, vd, K.2.1 0 3, ln, n, cl) (K.1 0 9) (K.2.1 0 1) (K.2.1 0 2) nn (nI b) 0 0) < mo ∨ ((sp_many (kd, vd, K.2.1 0 3, ln, n, cl) (K.1 0 9) (K.2.1 0 1) (K.2.1 0 2) nn (nI b) 0 0) = mo ∧ so ≤ (sp_lat (kd, vd, K.2.1 0 3, ln, n, cl) (K.1 0 9) (K.2.1 0 1) (K.2.1 0 2) nn (nI b) 0 0))) := sp_best_c.mp (by rw [← m1, ← m2]; first | exact Or.inl c_73 | exact Or.inr ⟨c_85, Int32.not_le.mp c_97⟩)
             rw [if_neg hc] at kk
             rw [m1, m2]
             exact ih (b + 1) _ _ _ K2 r2 (by omega) hs2 hR2 kk)
          | (have hc : ((sp_many (kd, vd, K.2.1 0 3, ln, n, cl) (K.1 0 9) (K.2.1 0 1) (K.2.1 0 2) nn (nI b) 0 0) < mo ∨ ((sp_many (kd, vd, K.2.1 0 3, ln, n, cl) (K.1 0 9) (K.2.1 0 1) (K.2.1 0 2) nn (nI b) 0 0) = mo ∧ so ≤ (sp_lat (kd, vd, K.2.1 0 3, ln, n, cl) (K.1 0 9) (K.2.1 0 1) (K.2.1 0 2) nn (nI b) 0 0))) := Decidable.of_not_not (fun z => by
               have z2 := sp_best_c.mpr z
               rw [← m1, ← m2] at z2
               rcases z2 with z2 | ⟨z2, z3⟩
               · exact c_73 z2
               · first | exact c_85 z2 | exact absurd z3 (Int32.not_lt.mpr c_97))
             rw [if_pos hc] at kk
             exact ih (b + 1) _ _ _ K2 r2 (by omega) hs2 hR2 kk)
      · skip
        refine wp_aload_n d_TC_best_88 rfl rfl rfl ?_
        refine gC_2 gf_TC_38_0 d_TC_best_89 ?_
        refine gR_4 gf_TC_193_2 d_TC_best_92 ?_
        refine wp_iload d_TC_best_95 rfl ?_
        refine wp_icmp_ge (t := 121) d_TC_best_97 (by decide) (fun c_97 => ?_) (fun c_97 => ?_)
        · skip
          refine wp_iinc (v := _ + 1) (ls' := [_, _, _, _, _, _, _]) d_TC_best_121 (by decide) rfl rfl rfl ?_
          refine wp_goto (t := 47) d_TC_best_124 (by decide) ?_
          rw [show nI b + 1 = nI (b + 1) from nI_1 b]
          first
            | (have hc : ¬ ((sp_many (kd, vd, K.2.1 0 3, ln, n, cl) (K.1 0 9) (K.2.1 0 1) (K.2.1 0 2) nn (nI b) 0 0) < mo ∨ ((sp_many (kd, vd, K.2.1 0 3, ln, n, cl) (K.1 0 9) (K.2.1 0 1) (K.2.1 0 2) nn (nI b) 0 0) = mo ∧ so ≤ (sp_lat (kd, vd, K.2.1 0 3, ln, n, cl) (K.1 0 9) (K.2.1 0 1) (K.2.1 0 2) nn (nI b) 0 0))) := sp_best_c.mp (by rw [← m1, ← m2]; first | exact Or.inl c_73 | exact Or.inr ⟨c_85, Int32.not_le.mp c_97⟩)
               rw [if_neg hc] at kk
               rw [m1, m2]
               exact ih (b + 1) _ _ _ K2 r2 (by omega) hs2 hR2 kk)
            | (have hc : ((sp_many (kd, vd, K.2.1 0 3, ln, n, cl) (K.1 0 9) (K.2.1 0 1) (K.2.1 0 2) nn (nI b) 0 0) < mo ∨ ((sp_many (kd, vd, K.2.1 0 3, ln, n, cl) (K.1 0 9) (K.2.1 0 1) (K.2.1 0 2) nn (nI b) 0 0) = mo ∧ so ≤ (sp_lat (kd, vd, K.2.1 0 3, ln, n, cl) (K.1 0 9) (K.2.1 0 1) (K.2.1 0 2) nn (nI b) 0 0))) := Decidable.of_not_not (fun z => by
                 have z2 := sp_best_c.mpr z
                 rw [← m1, ← m2] at z2
                 rcases z2 with z2 | ⟨z2, z3⟩
                 · exact c_73 z2
                 · first | exact c_85 z2 | exact absurd z3 (Int32.not_lt.mpr c_97))
               rw [if_pos hc] at kk
               exact ih (b + 1) _ _ _ K2 r2 (by omega) hs2 hR2 kk)
        · skip
          refine wp_iload d_TC_best_100 rfl ?_
          refine wp_istore_n (ls' := [_, _, _, _, _, _, _]) d_TC_best_102 rfl (by decide) rfl ?_
          refine wp_aload_n d_TC_best_103 rfl rfl rfl ?_
          refine gC_2 gf_TC_38_0 d_TC_best_104 ?_
          refine gR_3 gf_TC_192_2 d_TC_best_107 ?_
          refine wp_istore (ls' := [_, _, _, _, _, _, _]) d_TC_best_110 (by decide) rfl ?_
          refine wp_aload_n d_TC_best_112 rfl rfl rfl ?_
          refine gC_2 gf_TC_38_0 d_TC_best_113 ?_
          refine gR_4 gf_TC_193_2 d_TC_best_116 ?_
          refine wp_istore (ls' := [_, _, _, _, _, _, _]) d_TC_best_119 (by decide) rfl ?_
          refine wp_iinc (v := _ + 1) (ls' := [_, _, _, _, _, _, _]) d_TC_best_121 (by decide) rfl rfl rfl ?_
          refine wp_goto (t := 47) d_TC_best_124 (by decide) ?_
          rw [show nI b + 1 = nI (b + 1) from nI_1 b]
          first
            | (have hc : ¬ ((sp_many (kd, vd, K.2.1 0 3, ln, n, cl) (K.1 0 9) (K.2.1 0 1) (K.2.1 0 2) nn (nI b) 0 0) < mo ∨ ((sp_many (kd, vd, K.2.1 0 3, ln, n, cl) (K.1 0 9) (K.2.1 0 1) (K.2.1 0 2) nn (nI b) 0 0) = mo ∧ so ≤ (sp_lat (kd, vd, K.2.1 0 3, ln, n, cl) (K.1 0 9) (K.2.1 0 1) (K.2.1 0 2) nn (nI b) 0 0))) := sp_best_c.mp (by rw [← m1, ← m2]; first | exact Or.inl c_73 | exact Or.inr ⟨c_85, Int32.not_le.mp c_97⟩)
               rw [if_neg hc] at kk
               rw [m1, m2]
               exact ih (b + 1) _ _ _ K2 r2 (by omega) hs2 hR2 kk)
            | (have hc : ((sp_many (kd, vd, K.2.1 0 3, ln, n, cl) (K.1 0 9) (K.2.1 0 1) (K.2.1 0 2) nn (nI b) 0 0) < mo ∨ ((sp_many (kd, vd, K.2.1 0 3, ln, n, cl) (K.1 0 9) (K.2.1 0 1) (K.2.1 0 2) nn (nI b) 0 0) = mo ∧ so ≤ (sp_lat (kd, vd, K.2.1 0 3, ln, n, cl) (K.1 0 9) (K.2.1 0 1) (K.2.1 0 2) nn (nI b) 0 0))) := Decidable.of_not_not (fun z => by
                 have z2 := sp_best_c.mpr z
                 rw [← m1, ← m2] at z2
                 rcases z2 with z2 | ⟨z2, z3⟩
                 · exact c_73 z2
                 · first | exact c_85 z2 | exact absurd z3 (Int32.not_lt.mpr c_97))
               rw [if_pos hc] at kk
               exact ih (b + 1) _ _ _ K2 r2 (by omega) hs2 hR2 kk)
set_option maxRecDepth 4000 in
theorem c_TC_best {n : Nat} {kd vd : Nat → Int32} {ln : Nat → Nat} {cl : List sp_Cl} {x y : Int32} (hD : 10 ≤ D) (hR : tc_R mn sc MZ r) (hst : st_ok mn sc K 0 n B kd vd ln cl) (hB : B ≤ 20000) (kn : ¬ (0 ≤ y ∧ y ≤ 1) → Q (some (.int (-1))) (HT K MZ r)) (kb : (0 ≤ y ∧ y ≤ 1) → ¬ (1 ≤ x ∧ x ≤ 20) → Q (some (.int (-2))) (HT K MZ r)) (kk : (0 ≤ y ∧ y ≤ 1) → (1 ≤ x ∧ x ≤ 20) → ∀ nn, nn ≤ 20 → x = nI nn → ∀ K2 (r2 : tc_r), tk [2, 3, 4] K K2 → tc_R mn sc MZ r2 → Q (some (.int (if y = 0 then (sp_best (fun z => (sp_many (kd, vd, K.2.1 0 3, ln, n, cl) (K.1 0 9) (K.2.1 0 1) (K.2.1 0 2) nn z 0 0)) (fun z => (sp_lat (kd, vd, K.2.1 0 3, ln, n, cl) (K.1 0 9) (K.2.1 0 1) (K.2.1 0 2) nn z 0 0)) 99 1 (1, -1, 0)).1 else (sp_best (fun z => (sp_many (kd, vd, K.2.1 0 3, ln, n, cl) (K.1 0 9) (K.2.1 0 1) (K.2.1 0 2) nn z 0 0)) (fun z => (sp_lat (kd, vd, K.2.1 0 3, ln, n, cl) (K.1 0 9) (K.2.1 0 1) (K.2.1 0 2) nn z 0 0)) 99 1 (1, -1, 0)).2.1))) (HT K2 MZ r2)) : px_W G D 0 0 m_TC_best 0 (px_ent 7 [.ref 0, .int x, .int y]) [] (HT K MZ r) Q := by
  show px_W _ _ _ _ _ _ [some (.ref 0), some (.int x), some (.int y), none, none, none, none] [] _ _
  refine wp_iload_n d_TC_best_0 rfl rfl ?_
  refine wp_if_lt (t := 9) d_TC_best_1 (by decide) (fun c_1 => ?_) (fun c_1 => ?_)
  · skip
    refine wp_iconst (v := (-1)) d_TC_best_9 rfl ?_
    refine wp_ireturn d_TC_best_10 rfl rfl ?_
    first
      | exact kn (fun z => absurd z.1 (Int32.not_le.mpr c_1))
      | exact kn (fun z => c_6 z.2)
  · skip
    refine wp_iload_n d_TC_best_4 rfl rfl ?_
    refine wp_iconst (v := 1) d_TC_best_5 rfl ?_
    refine wp_icmp_le (t := 11) d_TC_best_6 (by decide) (fun c_6 => ?_) (fun c_6 => ?_)
    · skip
      refine wp_iload_n d_TC_best_11 rfl rfl ?_
      refine wp_iconst (v := 1) d_TC_best_12 rfl ?_
      refine wp_icmp_lt (t := 22) d_TC_best_13 (by decide) (fun c_13 => ?_) (fun c_13 => ?_)
      · skip
        refine wp_bipush (v := (-2)) d_TC_best_22 (by decide) ?_
        refine wp_ireturn d_TC_best_24 rfl rfl ?_
        first
          | exact kb ⟨Int32.not_lt.mp c_1, c_6⟩ (fun z => absurd z.1 (Int32.not_le.mpr c_13))
          | exact kb ⟨Int32.not_lt.mp c_1, c_6⟩ (fun z => c_19 z.2)
      · skip
        refine wp_iload_n d_TC_best_16 rfl rfl ?_
        refine wp_bipush (v := 20) d_TC_best_17 (by decide) ?_
        refine wp_icmp_le (t := 25) d_TC_best_19 (by decide) (fun c_19 => ?_) (fun c_19 => ?_)
        · skip
          have hx : 1 ≤ x ∧ x ≤ 20 := ⟨Int32.not_lt.mp c_13, c_19⟩
          obtain ⟨nn, hn20, rfl⟩ := sp_n1 (M := 20) (N := 20) rfl hx
          refine wp_aload_n d_TC_best_25 rfl rfl rfl ?_
          refine gC_2 gf_TC_38_0 d_TC_best_26 ?_
          refine wp_aload_n d_TC_best_29 rfl rfl rfl ?_
          refine gC_0 gf_TC_24_0 d_TC_best_30 ?_
          refine wp_callV (r := (R_2, T_2, 6)) (M' := m_Tr_startFrom) (as := [_]) (D' := D - 1) (C1 := 0) (C2 := 0) (S1 := 0) (S2 := 0) d_TC_best_33 rfl w_704 w_705 w_706 tt_23 k_Tr_startFrom (Nat.le_of_ble_eq_true rfl) rfl (Nat.le_of_ble_eq_true rfl) (by omega) rfl rfl ?_
          refine c_st (by omega) hR hst (fun K1 hs hj2 hk2 => ?_)
          refine wp_iconst (v := 1) d_TC_best_36 rfl ?_
          refine wp_istore_n (ls' := [_, _, _, _, _, _, _]) d_TC_best_37 rfl (by decide) rfl ?_
          refine wp_iconst (v := (-1)) d_TC_best_38 rfl ?_
          refine wp_istore (ls' := [_, _, _, _, _, _, _]) d_TC_best_39 (by decide) rfl ?_
          refine wp_iconst (v := 0) d_TC_best_41 rfl ?_
          refine wp_istore (ls' := [_, _, _, _, _, _, _]) d_TC_best_42 (by decide) rfl ?_
          refine wp_iconst (v := (nI 1)) d_TC_best_44 rfl ?_
          refine wp_istore (ls' := [_, _, _, _, _, _, _]) d_TC_best_45 (by decide) rfl ?_
          exact l_TC_best_47 hD hB (by omega) 99 1 1 (-1) 0 K1 r (by decide) hs hR (fun K2 r2 h1 h2 => kk ⟨Int32.not_lt.mp c_1, c_6⟩ hx nn hn20 rfl K2 r2 h1.1 h2)
        · skip
          refine wp_bipush (v := (-2)) d_TC_best_22 (by decide) ?_
          refine wp_ireturn d_TC_best_24 rfl rfl ?_
          first
            | exact kb ⟨Int32.not_lt.mp c_1, c_6⟩ (fun z => absurd z.1 (Int32.not_le.mpr c_13))
            | exact kb ⟨Int32.not_lt.mp c_1, c_6⟩ (fun z => c_19 z.2)
    · skip
      refine wp_iconst (v := (-1)) d_TC_best_9 rfl ?_
      refine wp_ireturn d_TC_best_10 rfl rfl ?_
      first
        | exact kn (fun z => absurd z.1 (Int32.not_le.mpr c_1))
        | exact kn (fun z => c_6 z.2)
set_option maxRecDepth 4000 in
theorem l_TC_slowest_7 {n : Nat} {kd vd : Nat → Int32} {ln : Nat → Nat} {cl : List sp_Cl} (hD : 8 ≤ D) (hst : st_ok mn sc K 0 n B kd vd ln cl) (hB : B ≤ 20000) : ∀ (q p : Nat) (wo mo : Int32) (r1 : tc_r), p + q = n → tc_R mn sc MZ r1 → (∀ r2 : tc_r, tc_R mn sc MZ r2 → Q (some (.int (sp_slc (kd, vd, K.2.1 0 3, ln, n, cl) (K.2.1 0 1) q p wo mo))) (HT K MZ r2)) → px_W G D 0 0 m_TC_slowest 7 [some (.ref 0), some (.int wo), some (.int mo), some (.int (nI p)), none] [] (HT K MZ r1) Q := by
  intro q
  have hn6 := hst.1.1
  induction q with
  | zero =>
    intro p wo mo r1 hpq hR1 k
    refine wp_iload_n d_TC_slowest_7 rfl rfl ?_
    refine wp_aload_n d_TC_slowest_8 rfl rfl rfl ?_
    refine gC_0 gf_TC_24_0 d_TC_slowest_9 ?_
    refine gK_8 (s := 0) (by decide) gf_TC_131_1 d_TC_slowest_12 ?_
    rw [hst.1.2.1]
    refine wp_icmp_ge (t := 53) d_TC_slowest_15 (by decide) (fun c_15 => ?_) (fun c_15 => absurd (nI_le (by omega) (by omega)) c_15)
    refine wp_iload_n d_TC_slowest_53 rfl rfl ?_
    refine wp_ireturn d_TC_slowest_54 rfl rfl ?_
    exact k r1 hR1
  | succ q ih =>
    intro p wo mo r1 hpq hR1 k
    have hln := hst.1.2.2 p (by omega)
    refine wp_iload_n d_TC_slowest_7 rfl rfl ?_
    refine wp_aload_n d_TC_slowest_8 rfl rfl rfl ?_
    refine gC_0 gf_TC_24_0 d_TC_slowest_9 ?_
    refine gK_8 (s := 0) (by decide) gf_TC_131_1 d_TC_slowest_12 ?_
    rw [hst.1.2.1]
    refine wp_icmp_ge (t := 53) d_TC_slowest_15 (by decide) (fun c_15 => absurd c_15 (nI_ge (by omega) (by omega))) (fun c_15 => ?_)
    refine wp_aload_n d_TC_slowest_18 rfl rfl rfl ?_
    refine gC_0 gf_TC_24_0 d_TC_slowest_19 ?_
    refine wp_iload_n d_TC_slowest_22 rfl rfl ?_
    refine toS 0 ?_
    refine wp_callV (r := (R_1, T_1, 15)) (M' := m_Si_holdsAt) (as := [_]) (D' := D - 1) (C1 := 0) (C2 := 0) (S1 := 0) (S2 := 0) d_TC_slowest_23 rfl w_460 w_461 w_462 (ts_0 (by decide)) k_Si_holdsAt (Nat.le_of_ble_eq_true rfl) rfl (Nat.le_of_ble_eq_true rfl) (by omega) rfl rfl ?_
    refine c_Si_holdsAt (by omega) (by decide) hR1 hst.2.2.2.2.1 hst.1 (by omega) hst.2.1 (by omega) (fun r2 hR2 => ?_)
    rw [ks_id]
    refine wp_istore (ls' := [_, _, _, _, _]) d_TC_slowest_26 (by decide) rfl ?_
    refine wp_iload d_TC_slowest_28 rfl ?_
    refine wp_iload_n d_TC_slowest_30 rfl rfl ?_
    refine wp_icmp_le (t := 47) d_TC_slowest_31 (by decide) (fun c_31 => ?_) (fun c_31 => ?_)
    · skip
      refine wp_iinc (v := _ + 1) (ls' := [_, _, _, _, _]) d_TC_slowest_47 (by decide) rfl rfl rfl ?_
      refine wp_goto (t := 7) d_TC_slowest_50 (by decide) ?_
      rw [show nI p + 1 = nI (p + 1) from nI_1 p]
      first
        | (rw [sp_slc, if_pos (Int32.not_le.mp c_31)] at k
           refine wp_less (ls' := [some (.ref 0), some (.int (nI (ln p))), some (.int (sp_hold (kd, vd, K.2.1 0 3, ln, n, cl) (K.2.1 0 1) p)), some (.int (nI (p + 1))), none]) ⟨rfl, rfl, rfl, rfl, trivial⟩ ?_
           exact ih (p + 1) _ _ r2 (by omega) hR2 k)
        | (rw [sp_slc, if_neg (Int32.not_lt.mpr c_31)] at k
           refine wp_less (ls' := [some (.ref 0), some (.int wo), some (.int mo), some (.int (nI (p + 1))), none]) ⟨rfl, rfl, rfl, rfl, trivial⟩ ?_
           exact ih (p + 1) _ _ r2 (by omega) hR2 k)
    · skip
      refine wp_aload_n d_TC_slowest_34 rfl rfl rfl ?_
      refine gC_0 gf_TC_24_0 d_TC_slowest_35 ?_
      refine gK_4 (s := 0) (by decide) gf_TC_172_1 d_TC_slowest_38 ?_
      refine wp_iload_n d_TC_slowest_41 rfl rfl ?_
      refine lK_4 (s := 0) (by decide) d_TC_slowest_42 (vp_in_nI (by omega) (by decide)) ?_
      rw [nI_clamp (by omega), hln.2.1]
      refine wp_istore_n (ls' := [_, _, _, _, _]) d_TC_slowest_43 rfl (by decide) rfl ?_
      refine wp_iload d_TC_slowest_44 rfl ?_
      refine wp_istore_n (ls' := [_, _, _, _, _]) d_TC_slowest_46 rfl (by decide) rfl ?_
      refine wp_iinc (v := _ + 1) (ls' := [_, _, _, _, _]) d_TC_slowest_47 (by decide) rfl rfl rfl ?_
      refine wp_goto (t := 7) d_TC_slowest_50 (by decide) ?_
      rw [show nI p + 1 = nI (p + 1) from nI_1 p]
      first
        | (rw [sp_slc, if_pos (Int32.not_le.mp c_31)] at k
           refine wp_less (ls' := [some (.ref 0), some (.int (nI (ln p))), some (.int (sp_hold (kd, vd, K.2.1 0 3, ln, n, cl) (K.2.1 0 1) p)), some (.int (nI (p + 1))), none]) ⟨rfl, rfl, rfl, rfl, trivial⟩ ?_
           exact ih (p + 1) _ _ r2 (by omega) hR2 k)
        | (rw [sp_slc, if_neg (Int32.not_lt.mpr c_31)] at k
           refine wp_less (ls' := [some (.ref 0), some (.int wo), some (.int mo), some (.int (nI (p + 1))), none]) ⟨rfl, rfl, rfl, rfl, trivial⟩ ?_
           exact ih (p + 1) _ _ r2 (by omega) hR2 k)
set_option maxRecDepth 4000 in
theorem c_TC_slowest {n : Nat} {kd vd : Nat → Int32} {ln : Nat → Nat} {cl : List sp_Cl} (hD : 8 ≤ D) (hR : tc_R mn sc MZ r) (hst : st_ok mn sc K 0 n B kd vd ln cl) (hB : B ≤ 20000) (k : ∀ r2 : tc_r, tc_R mn sc MZ r2 → Q (some (.int (sp_slc (kd, vd, K.2.1 0 3, ln, n, cl) (K.2.1 0 1) n 0 (-5) 0))) (HT K MZ r2)) : px_W G D 0 0 m_TC_slowest 0 (px_ent 5 [.ref 0]) [] (HT K MZ r) Q := by
  show px_W _ _ _ _ _ _ [some (.ref 0), none, none, none, none] [] _ _
  refine wp_bipush (v := (-5)) d_TC_slowest_0 (by decide) ?_
  refine wp_istore_n (ls' := [_, _, _, _, _]) d_TC_slowest_2 rfl (by decide) rfl ?_
  refine wp_iconst (v := 0) d_TC_slowest_3 rfl ?_
  refine wp_istore_n (ls' := [_, _, _, _, _]) d_TC_slowest_4 rfl (by decide) rfl ?_
  refine wp_iconst (v := (nI 0)) d_TC_slowest_5 rfl ?_
  refine wp_istore_n (ls' := [_, _, _, _, _]) d_TC_slowest_6 rfl (by decide) rfl ?_
  exact l_TC_slowest_7 hD hst hB n 0 _ _ r (Nat.zero_add n) hR k
theorem fl_pl {k : Nat} {ups fell many : Int32} (h : fl_ok k ups fell many) (hk : k ≤ 30) : ¬ fell = 0 ↔ many < nI k := by
  obtain ⟨u, f, mm, h1, h2, rfl, rfl, h5, rfl, h7, h8⟩ := h
  have h9 : f < 2 ^ 30 := Nat.lt_of_lt_of_le h2 (Nat.pow_le_pow_right (by decide) hk)
  rw [nI_ltI (by omega) (by omega)]
  constructor
  · intro z
    by_cases e : mm = k
    · exact absurd (congrArg nI (h8.mpr e)) z
    · omega
  · intro z e
    have := h8.mp ((nI_eq (b := 0) (by omega) (by decide)).mp e)
    omega
set_option maxRecDepth 4000 in
theorem c_TC_pulleyLoses {nn : Nat} {bt : Int32} (hD : 9 ≤ D) (hR1 : tc_R mn sc MZ r1) (hs : strt mn sc K K1 B S t0 hl fr) (hB : B ≤ 20000) (hn30 : nn ≤ 30) (hsc : sc.1 (K.2.2.2.1 0) = some S.2.2.2.2.2) (k : ∀ K2 (r2 : tc_r), strt mn sc K K2 B S t0 hl fr → tc_R mn sc MZ r2 → Q (some (.int (sp_pl (sp_many S t0 hl fr nn bt 0 0) (nI nn) (sp_pull S.2.2.2.2.2) (sp_rise S.2.2.2.2.2) (K.1 0 7) (sp_lat S t0 hl fr nn bt 0 0)))) (HT K2 MZ r2)) : px_W G D 0 0 m_TC_pulleyLoses 0 (px_ent 3 [.ref 0, .int (nI nn), .int bt]) [] (HT K1 MZ r1) Q := by
  show px_W _ _ _ _ _ _ [some (.ref 0), some (.int (nI nn)), some (.int bt)] [] _ _
  refine wp_aload_n d_TC_pulleyLoses_0 rfl rfl rfl ?_
  refine gC_2 gf_TC_38_0 d_TC_pulleyLoses_1 ?_
  refine wp_iload_n d_TC_pulleyLoses_4 rfl rfl ?_
  refine wp_iload_n d_TC_pulleyLoses_5 rfl rfl ?_
  refine wp_callV (r := (R_2, T_2, 6)) (M' := m_Tr_throwTubes) (as := [_, _]) (D' := D - 1) (C1 := 0) (C2 := 0) (S1 := 0) (S2 := 0) d_TC_pulleyLoses_6 rfl w_712 w_713 w_714 tt_23 k_Tr_throwTubes (Nat.le_of_ble_eq_true rfl) rfl (Nat.le_of_ble_eq_true rfl) (by omega) rfl rfl ?_
  refine c_tt (by omega) hR1 hs (by omega) (by omega) (fun K2 r2 hs2 hR2 m1 m2 m3 m4 => ?_)
  obtain ⟨t1, t2, t3, t4⟩ := hs2.1.1 0 (by decide)
  obtain ⟨fs, hfs, f7, f8, f9⟩ := hR2.sca (K := K2) (show sc.1 (K2.2.2.2.1 0) = some S.2.2.2.2.2 from by rw [t4]; exact hsc)
  have hfl := fl_pl m4 (by omega)
  refine wp_aload_n d_TC_pulleyLoses_9 rfl rfl rfl ?_
  refine gC_2 gf_TC_38_0 d_TC_pulleyLoses_10 ?_
  refine gR_5 gf_TC_229_2 d_TC_pulleyLoses_13 ?_
  refine wp_if_eq (t := 22) d_TC_pulleyLoses_16 (by decide) (fun c_16 => ?_) (fun c_16 => ?_)
  · skip
    refine wp_iload_n d_TC_pulleyLoses_22 rfl rfl ?_
    refine wp_aload_n d_TC_pulleyLoses_23 rfl rfl rfl ?_
    refine gC_0 gf_TC_24_0 d_TC_pulleyLoses_24 ?_
    refine gK_14 (s := 0) (by decide) gf_TC_150_1 d_TC_pulleyLoses_27 ?_
    refine wp_getf d_TC_pulleyLoses_30 gf_TC_169_3 hfs f9 ?_
    refine wp_imul d_TC_pulleyLoses_33 ?_
    refine wp_aload_n d_TC_pulleyLoses_34 rfl rfl rfl ?_
    refine gC_0 gf_TC_24_0 d_TC_pulleyLoses_35 ?_
    refine gK_14 (s := 0) (by decide) gf_TC_150_1 d_TC_pulleyLoses_38 ?_
    refine wp_getf d_TC_pulleyLoses_41 gf_TC_163_3 hfs f7 ?_
    refine wp_aload_n d_TC_pulleyLoses_44 rfl rfl rfl ?_
    refine gC_0 gf_TC_24_0 d_TC_pulleyLoses_45 ?_
    refine gK_7 (s := 0) (by decide) gf_TC_67_1 d_TC_pulleyLoses_48 ?_
    refine wp_imul d_TC_pulleyLoses_51 ?_
    refine wp_iadd d_TC_pulleyLoses_52 ?_
    refine wp_aload_n d_TC_pulleyLoses_53 rfl rfl rfl ?_
    refine gC_2 gf_TC_38_0 d_TC_pulleyLoses_54 ?_
    refine gR_4 gf_TC_193_2 d_TC_pulleyLoses_57 ?_
    refine wp_isub d_TC_pulleyLoses_60 ?_
    refine wp_ireturn d_TC_pulleyLoses_61 rfl rfl ?_
    rw [sp_pl, if_neg (fun z => hfl.mpr z c_16)] at k
    have k2 := k K2 r2 hs2 hR2
    rw [← m2, ← t1] at k2
    exact k2
  · skip
    refine wp_ldc d_TC_pulleyLoses_19 w_782 ?_
    refine wp_ireturn d_TC_pulleyLoses_21 rfl rfl ?_
    rw [sp_pl, if_pos (hfl.mp c_16)] at k
    exact k K2 r2 hs2 hR2
set_option maxRecDepth 4000 in
theorem c_TC_pulley {n : Nat} {kd vd : Nat → Int32} {ln : Nat → Nat} {cl : List sp_Cl} {x bt : Int32} (hD : 10 ≤ D) (hR : tc_R mn sc MZ r) (hst : st_ok mn sc K 0 n B kd vd ln cl) (hB : B ≤ 20000) (kb : ¬ ((1 ≤ x ∧ x ≤ 30) ∧ (1 ≤ bt ∧ bt ≤ 99)) → Q (some (.int (-100002))) (HT K MZ r)) (kk : ((1 ≤ x ∧ x ≤ 30) ∧ (1 ≤ bt ∧ bt ≤ 99)) → ∀ nn, nn ≤ 30 → x = nI nn → ∀ K2 (r2 : tc_r), tk [2, 3, 4] K K2 → tc_R mn sc MZ r2 → Q (some (.int (sp_pl (sp_many (kd, vd, K.2.1 0 3, ln, n, cl) (K.1 0 9) (K.2.1 0 1) (K.2.1 0 2) nn bt 0 0) (nI nn) (sp_pull cl) (sp_rise cl) (K.1 0 7) (sp_lat (kd, vd, K.2.1 0 3, ln, n, cl) (K.1 0 9) (K.2.1 0 1) (K.2.1 0 2) nn bt 0 0)))) (HT K2 MZ r2)) : px_W G D 0 0 m_TC_pulley 0 (px_ent 3 [.ref 0, .int x, .int bt]) [] (HT K MZ r) Q := by
  show px_W _ _ _ _ _ _ [some (.ref 0), some (.int x), some (.int bt)] [] _ _
  refine wp_iload_n d_TC_pulley_0 rfl rfl ?_
  refine wp_callS (M' := m_TC_isNoCount) (as := [_]) (D' := D - 1) (C1 := 0) (C2 := 0) (S1 := 0) (S2 := 0) d_TC_pulley_1 w_770 w_771 k_TC_isNoCount (Nat.le_of_ble_eq_true rfl) rfl (Nat.le_of_ble_eq_true rfl) (by omega) rfl rfl ?_
  refine c_TC_isNoCount (by omega)  (fun hx => ?_) (fun hx => ?_)
  · skip
    refine wp_if_ne (t := 14) d_TC_pulley_4 (by decide) (fun c_4 => ?_) (fun c_4 => (absurd c_4 (by decide)))
    refine wp_ldc d_TC_pulley_14 w_777 ?_
    refine wp_ireturn d_TC_pulley_16 rfl rfl ?_
    first
      | exact kb (fun z => hx z.1)
      | exact kb (fun z => hbt z.2)
  · skip
    refine wp_if_ne (t := 14) d_TC_pulley_4 (by decide) (fun c_4 => (absurd c_4 (by decide))) (fun c_4 => ?_)
    refine wp_iload_n d_TC_pulley_7 rfl rfl ?_
    refine wp_callS (M' := m_TC_isNoBeat) (as := [_]) (D' := D - 1) (C1 := 0) (C2 := 0) (S1 := 0) (S2 := 0) d_TC_pulley_8 w_669 w_670 k_TC_isNoBeat (Nat.le_of_ble_eq_true rfl) rfl (Nat.le_of_ble_eq_true rfl) (by omega) rfl rfl ?_
    refine c_TC_isNoBeat (by omega)  (fun hbt => ?_) (fun hbt => ?_)
    · skip
      refine wp_if_eq (t := 17) d_TC_pulley_11 (by decide) (fun c_11 => (absurd c_11 (by decide))) (fun c_11 => ?_)
      refine wp_ldc d_TC_pulley_14 w_777 ?_
      refine wp_ireturn d_TC_pulley_16 rfl rfl ?_
      first
        | exact kb (fun z => hx z.1)
        | exact kb (fun z => hbt z.2)
    · skip
      obtain ⟨nn, hn30, rfl⟩ := sp_n1 (M := 30) (N := 30) rfl hx
      refine wp_if_eq (t := 17) d_TC_pulley_11 (by decide) (fun c_11 => ?_) (fun c_11 => (absurd c_11 (by decide)))
      refine wp_aload_n d_TC_pulley_17 rfl rfl rfl ?_
      refine gC_2 gf_TC_38_0 d_TC_pulley_18 ?_
      refine wp_aload_n d_TC_pulley_21 rfl rfl rfl ?_
      refine gC_0 gf_TC_24_0 d_TC_pulley_22 ?_
      refine wp_callV (r := (R_2, T_2, 6)) (M' := m_Tr_startFrom) (as := [_]) (D' := D - 1) (C1 := 0) (C2 := 0) (S1 := 0) (S2 := 0) d_TC_pulley_25 rfl w_704 w_705 w_706 tt_23 k_Tr_startFrom (Nat.le_of_ble_eq_true rfl) rfl (Nat.le_of_ble_eq_true rfl) (by omega) rfl rfl ?_
      refine c_st (by omega) hR hst (fun K1 hs hj2 hk2 => ?_)
      refine wp_aload_n d_TC_pulley_28 rfl rfl rfl ?_
      refine wp_iload_n d_TC_pulley_29 rfl rfl ?_
      refine wp_iload_n d_TC_pulley_30 rfl rfl ?_
      refine wp_callV (r := (R_0, T_0, 11)) (M' := m_TC_pulleyLoses) (as := [_, _]) (D' := D - 1) (C1 := 0) (C2 := 0) (S1 := 0) (S2 := 0) d_TC_pulley_31 rfl w_778 w_780 w_13 tt_0 k_TC_pulleyLoses (Nat.le_of_ble_eq_true rfl) rfl (Nat.le_of_ble_eq_true rfl) (by omega) rfl rfl ?_
      refine c_TC_pulleyLoses (by omega) hR hs hB (by omega) hst.2.2.2.2.1 (fun K2 r2 hs2 hR2 => ?_)
      refine wp_ireturn d_TC_pulley_34 rfl rfl ?_
      exact kk ⟨hx, hbt⟩ nn hn30 rfl K2 r2 hs2.1 hR2
set_option maxRecDepth 4000 in
theorem l_TC_from_23 {n : Nat} {kd vd : Nat → Int32} {ln : Nat → Nat} {cl : List sp_Cl} {bt : Int32} (hD : 10 ≤ D) (hst : st_ok mn sc K 0 n B kd vd ln cl) (hB : B ≤ 20000) : ∀ (q m : Nat) (K1 : tc_K) (r1 : tc_r), m + q = 31 → strt mn sc K K1 B (kd, vd, K.2.1 0 3, ln, n, cl) (K.1 0 9) (K.2.1 0 1) (K.2.1 0 2) → tc_R mn sc MZ r1 → (∀ K2 (r2 : tc_r), strt mn sc K K2 B (kd, vd, K.2.1 0 3, ln, n, cl) (K.1 0 9) (K.2.1 0 1) (K.2.1 0 2) → tc_R mn sc MZ r2 → Q (some (.int (sp_from (fun z => (sp_pl (sp_many (kd, vd, K.2.1 0 3, ln, n, cl) (K.1 0 9) (K.2.1 0 1) (K.2.1 0 2) z bt 0 0) (nI z) (sp_pull cl) (sp_rise cl) (K.1 0 7) (sp_lat (kd, vd, K.2.1 0 3, ln, n, cl) (K.1 0 9) (K.2.1 0 1) (K.2.1 0 2) z bt 0 0))) q m))) (HT K2 MZ r2)) → px_W G D 0 0 m_TC_from 23 [some (.ref 0), some (.int bt), some (.int (nI m))] [] (HT K1 MZ r1) Q := by
  intro q
  induction q with
  | zero =>
    intro m K1 r1 hmq hs hR1 kk
    refine wp_iload_n d_TC_from_23 rfl rfl ?_
    refine wp_bipush (v := (nI 30)) d_TC_from_24 (by decide) ?_
    refine wp_icmp_gt (t := 46) d_TC_from_26 (by decide) (fun c_26 => ?_) (fun c_26 => absurd (nI_lt (by omega) (by omega)) c_26)
    refine wp_bipush (v := (-5)) d_TC_from_46 (by decide) ?_
    refine wp_ireturn d_TC_from_48 rfl rfl ?_
    exact kk K1 r1 hs hR1
  | succ q ih =>
    intro m K1 r1 hmq hs hR1 kk
    refine wp_iload_n d_TC_from_23 rfl rfl ?_
    refine wp_bipush (v := (nI 30)) d_TC_from_24 (by decide) ?_
    refine wp_icmp_gt (t := 46) d_TC_from_26 (by decide) (fun c_26 => absurd c_26 (Int32.not_lt.mpr (nI_le (by omega) (by decide)))) (fun c_26 => ?_)
    refine wp_aload_n d_TC_from_29 rfl rfl rfl ?_
    refine wp_iload_n d_TC_from_30 rfl rfl ?_
    refine wp_iload_n d_TC_from_31 rfl rfl ?_
    refine wp_callV (r := (R_0, T_0, 11)) (M' := m_TC_pulleyLoses) (as := [_, _]) (D' := D - 1) (C1 := 0) (C2 := 0) (S1 := 0) (S2 := 0) d_TC_from_32 rfl w_778 w_780 w_13 tt_0 k_TC_pulleyLoses (Nat.le_of_ble_eq_true rfl) rfl (Nat.le_of_ble_eq_true rfl) (by omega) rfl rfl ?_
    refine c_TC_pulleyLoses (by omega) hR1 hs hB (by omega) hst.2.2.2.2.1 (fun K2 r2 hs2 hR2 => ?_)
    refine wp_if_le (t := 40) d_TC_from_35 (by decide) (fun c_35 => ?_) (fun c_35 => ?_)
    · skip
      refine wp_iinc (v := _ + 1) (ls' := [_, _, _]) d_TC_from_40 (by decide) rfl rfl rfl ?_
      refine wp_goto (t := 23) d_TC_from_43 (by decide) ?_
      rw [show nI m + 1 = nI (m + 1) from nI_1 m]
      rw [sp_from, if_neg (Int32.not_lt.mpr c_35)] at kk
      exact ih (m + 1) K2 r2 (by omega) hs2 hR2 kk
    · skip
      refine wp_iload_n d_TC_from_38 rfl rfl ?_
      refine wp_ireturn d_TC_from_39 rfl rfl ?_
      rw [sp_from, if_pos (Int32.not_le.mp c_35)] at kk
      exact kk K2 r2 hs2 hR2
set_option maxRecDepth 4000 in
theorem c_TC_from {n : Nat} {kd vd : Nat → Int32} {ln : Nat → Nat} {cl : List sp_Cl} {bt : Int32} (hD : 10 ≤ D) (hR : tc_R mn sc MZ r) (hst : st_ok mn sc K 0 n B kd vd ln cl) (hB : B ≤ 20000) (kb : ¬ (1 ≤ bt ∧ bt ≤ 99) → Q (some (.int (-2))) (HT K MZ r)) (kk : (1 ≤ bt ∧ bt ≤ 99) → ∀ K2 (r2 : tc_r), tk [2, 3, 4] K K2 → tc_R mn sc MZ r2 → Q (some (.int (sp_from (fun z => (sp_pl (sp_many (kd, vd, K.2.1 0 3, ln, n, cl) (K.1 0 9) (K.2.1 0 1) (K.2.1 0 2) z bt 0 0) (nI z) (sp_pull cl) (sp_rise cl) (K.1 0 7) (sp_lat (kd, vd, K.2.1 0 3, ln, n, cl) (K.1 0 9) (K.2.1 0 1) (K.2.1 0 2) z bt 0 0))) 30 1))) (HT K2 MZ r2)) : px_W G D 0 0 m_TC_from 0 (px_ent 3 [.ref 0, .int bt]) [] (HT K MZ r) Q := by
  show px_W _ _ _ _ _ _ [some (.ref 0), some (.int bt), none] [] _ _
  refine wp_iload_n d_TC_from_0 rfl rfl ?_
  refine wp_callS (M' := m_TC_isNoBeat) (as := [_]) (D' := D - 1) (C1 := 0) (C2 := 0) (S1 := 0) (S2 := 0) d_TC_from_1 w_669 w_670 k_TC_isNoBeat (Nat.le_of_ble_eq_true rfl) rfl (Nat.le_of_ble_eq_true rfl) (by omega) rfl rfl ?_
  refine c_TC_isNoBeat (by omega)  (fun hbt => ?_) (fun hbt => ?_)
  · skip
    refine wp_if_eq (t := 10) d_TC_from_4 (by decide) (fun c_4 => (absurd c_4 (by decide))) (fun c_4 => ?_)
    refine wp_bipush (v := (-2)) d_TC_from_7 (by decide) ?_
    refine wp_ireturn d_TC_from_9 rfl rfl ?_
    exact kb hbt
  · skip
    refine wp_if_eq (t := 10) d_TC_from_4 (by decide) (fun c_4 => ?_) (fun c_4 => (absurd c_4 (by decide)))
    refine wp_aload_n d_TC_from_10 rfl rfl rfl ?_
    refine gC_2 gf_TC_38_0 d_TC_from_11 ?_
    refine wp_aload_n d_TC_from_14 rfl rfl rfl ?_
    refine gC_0 gf_TC_24_0 d_TC_from_15 ?_
    refine wp_callV (r := (R_2, T_2, 6)) (M' := m_Tr_startFrom) (as := [_]) (D' := D - 1) (C1 := 0) (C2 := 0) (S1 := 0) (S2 := 0) d_TC_from_18 rfl w_704 w_705 w_706 tt_23 k_Tr_startFrom (Nat.le_of_ble_eq_true rfl) rfl (Nat.le_of_ble_eq_true rfl) (by omega) rfl rfl ?_
    refine c_st (by omega) hR hst (fun K1 hs hj2 hk2 => ?_)
    refine wp_iconst (v := (nI 1)) d_TC_from_21 rfl ?_
    refine wp_istore_n (ls' := [_, _, _]) d_TC_from_22 rfl (by decide) rfl ?_
    exact l_TC_from_23 hD hst hB 30 1 K1 r (by decide) hs hR (fun K2 r2 h1 h2 => kk hbt K2 r2 h1.1 h2)
set_option maxRecDepth 4000 in
theorem l_TC_rested_47 {n : Nat} {kd vd : Nat → Int32} {ln : Nat → Nat} {cl : List sp_Cl} {nn : Nat} {bt rr : Int32} (hD : 10 ≤ D) (hB : B ≤ 20000) (hn30 : nn ≤ 30) : ∀ (q : Nat) (K1 : tc_K) (r1 : tc_r), q ≤ 20 → strt mn sc K K1 B (kd, vd, K.2.1 0 3, ln, n, cl) (K.1 0 9) (K.2.1 0 1) (K.2.1 0 2) → tc_R mn sc MZ r1 → (∀ K2 (r2 : tc_r), strt mn sc K K2 B (kd, vd, K.2.1 0 3, ln, n, cl) (K.1 0 9) (K.2.1 0 1) (K.2.1 0 2) → tc_R mn sc MZ r2 → Q (some (.int (sp_rst (fun j => (sp_many (kd, vd, K.2.1 0 3, ln, n, cl) (K.1 0 9) (K.2.1 0 1) (K.2.1 0 2) nn bt rr j)) (nI nn) q))) (HT K2 MZ r2)) → px_W G D 0 0 m_TC_rested 47 [some (.ref 0), some (.int (nI nn)), some (.int bt), some (.int rr), some (.int (nI q))] [] (HT K1 MZ r1) Q := by
  intro q
  induction q with
  | zero =>
    intro K1 r1 hq hs hR1 kk
    refine wp_iload d_TC_rested_47 rfl ?_
    refine wp_iconst (v := (nI 1)) d_TC_rested_49 rfl ?_
    refine wp_icmp_lt (t := 77) d_TC_rested_50 (by decide) (fun c_50 => ?_) (fun c_50 => absurd (nI_lt (a := 0) (b := 1) (by decide) (by decide)) c_50)
    refine wp_bipush (v := (-5)) d_TC_rested_77 (by decide) ?_
    refine wp_ireturn d_TC_rested_79 rfl rfl ?_
    exact kk K1 r1 hs hR1
  | succ q ih =>
    intro K1 r1 hq hs hR1 kk
    refine wp_iload d_TC_rested_47 rfl ?_
    refine wp_iconst (v := (nI 1)) d_TC_rested_49 rfl ?_
    refine wp_icmp_lt (t := 77) d_TC_rested_50 (by decide) (fun c_50 => absurd (nI_le (a := 1) (by omega) (by omega)) (Int32.not_le.mpr c_50)) (fun c_50 => ?_)
    refine wp_aload_n d_TC_rested_53 rfl rfl rfl ?_
    refine gC_2 gf_TC_38_0 d_TC_rested_54 ?_
    refine wp_iload_n d_TC_rested_57 rfl rfl ?_
    refine wp_iload_n d_TC_rested_58 rfl rfl ?_
    refine wp_iload d_TC_rested_59 rfl ?_
    refine wp_iload_n d_TC_rested_61 rfl rfl ?_
    refine wp_callV (r := (R_2, T_2, 6)) (M' := m_Tr_noneFalls) (as := [_, _, _, _]) (D' := D - 1) (C1 := 0) (C2 := 0) (S1 := 0) (S2 := 0) d_TC_rested_62 rfl w_791 w_738 w_739 tt_23 k_Tr_noneFalls (Nat.le_of_ble_eq_true rfl) rfl (Nat.le_of_ble_eq_true rfl) (by omega) rfl rfl ?_
    refine c_nf (by omega) hR1 hs hB (by omega) (by omega) (fun hg K2 r2 hs2 hR2 => ?_) (fun hg K2 r2 hs2 hR2 => ?_)
    · skip
      refine wp_if_eq (t := 71) d_TC_rested_65 (by decide) (fun c_65 => (absurd c_65 (by decide))) (fun c_65 => ?_)
      refine wp_iload d_TC_rested_68 rfl ?_
      refine wp_ireturn d_TC_rested_70 rfl rfl ?_
      rw [sp_rst, if_pos hg] at kk
      exact kk K2 r2 hs2 hR2
    · skip
      refine wp_if_eq (t := 71) d_TC_rested_65 (by decide) (fun c_65 => ?_) (fun c_65 => (absurd c_65 (by decide)))
      refine wp_iinc (v := _ + (-1)) (ls' := [_, _, _, _, _]) d_TC_rested_71 (by decide) rfl rfl rfl ?_
      refine wp_goto (t := 47) d_TC_rested_74 (by decide) ?_
      rw [show nI (q + 1) + -1 = nI q from by rw [← Int32.sub_eq_add_neg]; exact nI_pred q]
      rw [sp_rst, if_neg hg] at kk
      exact ih K2 r2 (by omega) hs2 hR2 kk
set_option maxRecDepth 4000 in
theorem c_TC_rested {n : Nat} {kd vd : Nat → Int32} {ln : Nat → Nat} {cl : List sp_Cl} {x bt rr : Int32} (hD : 10 ≤ D) (hR : tc_R mn sc MZ r) (hst : st_ok mn sc K 0 n B kd vd ln cl) (hB : B ≤ 20000) (kb : ¬ ((1 ≤ x ∧ x ≤ 20) ∧ (1 ≤ bt ∧ bt ≤ 99) ∧ (1 ≤ rr ∧ rr ≤ 60)) → Q (some (.int (-2))) (HT K MZ r)) (kk : ((1 ≤ x ∧ x ≤ 20) ∧ (1 ≤ bt ∧ bt ≤ 99) ∧ (1 ≤ rr ∧ rr ≤ 60)) → ∀ nn, nn ≤ 20 → x = nI nn → ∀ K2 (r2 : tc_r), tk [2, 3, 4] K K2 → tc_R mn sc MZ r2 → Q (some (.int (sp_rst (fun j => (sp_many (kd, vd, K.2.1 0 3, ln, n, cl) (K.1 0 9) (K.2.1 0 1) (K.2.1 0 2) nn bt rr j)) (nI nn) 20))) (HT K2 MZ r2)) : px_W G D 0 0 m_TC_rested 0 (px_ent 5 [.ref 0, .int x, .int bt, .int rr]) [] (HT K MZ r) Q := by
  show px_W _ _ _ _ _ _ [some (.ref 0), some (.int x), some (.int bt), some (.int rr), none] [] _ _
  refine wp_iload_n d_TC_rested_0 rfl rfl ?_
  refine wp_iconst (v := 1) d_TC_rested_1 rfl ?_
  refine wp_icmp_lt (t := 29) d_TC_rested_2 (by decide) (fun c_2 => ?_) (fun c_2 => ?_)
  · skip
    refine wp_bipush (v := (-2)) d_TC_rested_29 (by decide) ?_
    refine wp_ireturn d_TC_rested_31 rfl rfl ?_
    first
      | exact kb (fun z => absurd z.1.1 (Int32.not_le.mpr c_2))
      | exact kb (fun z => absurd z.1.2 (Int32.not_le.mpr c_8))
      | exact kb (fun z => hbt z.2.1)
      | exact kb (fun z => absurd z.2.2.1 (Int32.not_le.mpr c_20))
      | exact kb (fun z => c_26 z.2.2.2)
  · skip
    refine wp_iload_n d_TC_rested_5 rfl rfl ?_
    refine wp_bipush (v := 20) d_TC_rested_6 (by decide) ?_
    refine wp_icmp_gt (t := 29) d_TC_rested_8 (by decide) (fun c_8 => ?_) (fun c_8 => ?_)
    · skip
      refine wp_bipush (v := (-2)) d_TC_rested_29 (by decide) ?_
      refine wp_ireturn d_TC_rested_31 rfl rfl ?_
      first
        | exact kb (fun z => absurd z.1.1 (Int32.not_le.mpr c_2))
        | exact kb (fun z => absurd z.1.2 (Int32.not_le.mpr c_8))
        | exact kb (fun z => hbt z.2.1)
        | exact kb (fun z => absurd z.2.2.1 (Int32.not_le.mpr c_20))
        | exact kb (fun z => c_26 z.2.2.2)
    · skip
      refine wp_iload_n d_TC_rested_11 rfl rfl ?_
      refine wp_callS (M' := m_TC_isNoBeat) (as := [_]) (D' := D - 1) (C1 := 0) (C2 := 0) (S1 := 0) (S2 := 0) d_TC_rested_12 w_669 w_670 k_TC_isNoBeat (Nat.le_of_ble_eq_true rfl) rfl (Nat.le_of_ble_eq_true rfl) (by omega) rfl rfl ?_
      refine c_TC_isNoBeat (by omega)  (fun hbt => ?_) (fun hbt => ?_)
      · skip
        refine wp_if_ne (t := 29) d_TC_rested_15 (by decide) (fun c_15 => ?_) (fun c_15 => (absurd c_15 (by decide)))
        refine wp_bipush (v := (-2)) d_TC_rested_29 (by decide) ?_
        refine wp_ireturn d_TC_rested_31 rfl rfl ?_
        first
          | exact kb (fun z => absurd z.1.1 (Int32.not_le.mpr c_2))
          | exact kb (fun z => absurd z.1.2 (Int32.not_le.mpr c_8))
          | exact kb (fun z => hbt z.2.1)
          | exact kb (fun z => absurd z.2.2.1 (Int32.not_le.mpr c_20))
          | exact kb (fun z => c_26 z.2.2.2)
      · skip
        refine wp_if_ne (t := 29) d_TC_rested_15 (by decide) (fun c_15 => (absurd c_15 (by decide))) (fun c_15 => ?_)
        refine wp_iload_n d_TC_rested_18 rfl rfl ?_
        refine wp_iconst (v := 1) d_TC_rested_19 rfl ?_
        refine wp_icmp_lt (t := 29) d_TC_rested_20 (by decide) (fun c_20 => ?_) (fun c_20 => ?_)
        · skip
          refine wp_bipush (v := (-2)) d_TC_rested_29 (by decide) ?_
          refine wp_ireturn d_TC_rested_31 rfl rfl ?_
          first
            | exact kb (fun z => absurd z.1.1 (Int32.not_le.mpr c_2))
            | exact kb (fun z => absurd z.1.2 (Int32.not_le.mpr c_8))
            | exact kb (fun z => hbt z.2.1)
            | exact kb (fun z => absurd z.2.2.1 (Int32.not_le.mpr c_20))
            | exact kb (fun z => c_26 z.2.2.2)
        · skip
          refine wp_iload_n d_TC_rested_23 rfl rfl ?_
          refine wp_bipush (v := 60) d_TC_rested_24 (by decide) ?_
          refine wp_icmp_le (t := 32) d_TC_rested_26 (by decide) (fun c_26 => ?_) (fun c_26 => ?_)
          · skip
            have hx : 1 ≤ x ∧ x ≤ 20 := ⟨Int32.not_lt.mp c_2, Int32.not_lt.mp c_8⟩
            obtain ⟨nn, hn20, rfl⟩ := sp_n1 (M := 20) (N := 20) rfl hx
            refine wp_aload_n d_TC_rested_32 rfl rfl rfl ?_
            refine gC_2 gf_TC_38_0 d_TC_rested_33 ?_
            refine wp_aload_n d_TC_rested_36 rfl rfl rfl ?_
            refine gC_0 gf_TC_24_0 d_TC_rested_37 ?_
            refine wp_callV (r := (R_2, T_2, 6)) (M' := m_Tr_startFrom) (as := [_]) (D' := D - 1) (C1 := 0) (C2 := 0) (S1 := 0) (S2 := 0) d_TC_rested_40 rfl w_704 w_705 w_706 tt_23 k_Tr_startFrom (Nat.le_of_ble_eq_true rfl) rfl (Nat.le_of_ble_eq_true rfl) (by omega) rfl rfl ?_
            refine c_st (by omega) hR hst (fun K1 hs hj2 hk2 => ?_)
            refine wp_bipush (v := (nI 20)) d_TC_rested_43 (by decide) ?_
            refine wp_istore (ls' := [_, _, _, _, _]) d_TC_rested_45 (by decide) rfl ?_
            exact l_TC_rested_47 hD hB (by omega) 20 K1 r (by decide) hs hR (fun K2 r2 h1 h2 => kk ⟨hx, hbt, Int32.not_lt.mp c_20, c_26⟩ nn hn20 rfl K2 r2 h1.1 h2)
          · skip
            refine wp_bipush (v := (-2)) d_TC_rested_29 (by decide) ?_
            refine wp_ireturn d_TC_rested_31 rfl rfl ?_
            first
              | exact kb (fun z => absurd z.1.1 (Int32.not_le.mpr c_2))
              | exact kb (fun z => absurd z.1.2 (Int32.not_le.mpr c_8))
              | exact kb (fun z => hbt z.2.1)
              | exact kb (fun z => absurd z.2.2.1 (Int32.not_le.mpr c_20))
              | exact kb (fun z => c_26 z.2.2.2)
set_option maxRecDepth 4000 in
theorem l_TC_mean_38 {n : Nat} {kd vd : Nat → Int32} {ln : Nat → Nat} {cl : List sp_Cl} {nn p : Nat} {y : Int32} (hD : 10 ≤ D) (hB : B ≤ 20000) (hn30 : nn ≤ 30) (hp : p ≤ 400) : ∀ (q b : Nat) (z : Int32) (K1 : tc_K) (r1 : tc_r), b + q = 21 → strt mn sc K K1 B (kd, vd, K.2.1 0 3, ln, n, cl) (K.1 0 9) (K.2.1 0 1) (K.2.1 0 2) → tc_R mn sc MZ r1 → sp_sum (fun z => (sp_many (kd, vd, K.2.1 0 3, ln, n, cl) (K.1 0 9) (K.2.1 0 1) (K.2.1 0 2) nn z 0 0)) q b z = nI p → (∀ K2 (r2 : tc_r), strt mn sc K K2 B (kd, vd, K.2.1 0 3, ln, n, cl) (K.1 0 9) (K.2.1 0 1) (K.2.1 0 2) → tc_R mn sc MZ r2 → Q (some (.long (sp_low p 20 y))) (HT K2 MZ r2)) → px_W G D 0 0 m_TC_mean 38 [some (.ref 0), some (.int (nI nn)), some (.int y), some (.int z), some (.int (nI b))] [] (HT K1 MZ r1) Q := by
  intro q
  induction q with
  | zero =>
    intro b z K1 r1 hbq hs hR1 hsum kk
    refine wp_iload d_TC_mean_38 rfl ?_
    refine wp_bipush (v := (nI 20)) d_TC_mean_40 (by decide) ?_
    refine wp_icmp_gt (t := 71) d_TC_mean_42 (by decide) (fun c_42 => ?_) (fun c_42 => absurd (nI_lt (by omega) (by omega)) c_42)
    rw [show z = nI p from hsum]
    refine wp_iload_n d_TC_mean_71 rfl rfl ?_
    refine wp_bipush (v := (nI 20)) d_TC_mean_72 (by decide) ?_
    refine wp_iload_n d_TC_mean_74 rfl rfl ?_
    refine wp_callS (M' := m_TC_partOfFraction) (as := [_, _, _]) (D' := D - 1) (C1 := 0) (C2 := 0) (S1 := 0) (S2 := 0) d_TC_mean_75 w_821 w_822 k_TC_partOfFraction (Nat.le_of_ble_eq_true rfl) rfl (Nat.le_of_ble_eq_true rfl) (by omega) rfl rfl ?_
    refine c_TC_partOfFraction (by omega) (by omega) (by decide) (by decide) ?_
    refine wp_lreturn d_TC_mean_78 rfl ?_
    exact kk K1 r1 hs hR1
  | succ q ih =>
    intro b z K1 r1 hbq hs hR1 hsum kk
    refine wp_iload d_TC_mean_38 rfl ?_
    refine wp_bipush (v := (nI 20)) d_TC_mean_40 (by decide) ?_
    refine wp_icmp_gt (t := 71) d_TC_mean_42 (by decide) (fun c_42 => absurd c_42 (Int32.not_lt.mpr (nI_le (by omega) (by decide)))) (fun c_42 => ?_)
    refine wp_aload_n d_TC_mean_45 rfl rfl rfl ?_
    refine gC_2 gf_TC_38_0 d_TC_mean_46 ?_
    refine wp_iload_n d_TC_mean_49 rfl rfl ?_
    refine wp_iload d_TC_mean_50 rfl ?_
    refine wp_callV (r := (R_2, T_2, 6)) (M' := m_Tr_throwTubes) (as := [_, _]) (D' := D - 1) (C1 := 0) (C2 := 0) (S1 := 0) (S2 := 0) d_TC_mean_52 rfl w_712 w_713 w_714 tt_23 k_Tr_throwTubes (Nat.le_of_ble_eq_true rfl) rfl (Nat.le_of_ble_eq_true rfl) (by omega) rfl rfl ?_
    refine c_tt (by omega) hR1 hs (by omega) (by omega) (fun K2 r2 hs2 hR2 m1 m2 m3 m4 => ?_)
    refine wp_iload_n d_TC_mean_55 rfl rfl ?_
    refine wp_aload_n d_TC_mean_56 rfl rfl rfl ?_
    refine gC_2 gf_TC_38_0 d_TC_mean_57 ?_
    refine gR_3 gf_TC_192_2 d_TC_mean_60 ?_
    refine wp_iadd d_TC_mean_63 ?_
    refine wp_istore_n (ls' := [_, _, _, _, _]) d_TC_mean_64 rfl (by decide) rfl ?_
    refine wp_iinc (v := _ + 1) (ls' := [_, _, _, _, _]) d_TC_mean_65 (by decide) rfl rfl rfl ?_
    refine wp_goto (t := 38) d_TC_mean_68 (by decide) ?_
    rw [show nI b + 1 = nI (b + 1) from nI_1 b, m1]
    exact ih (b + 1) _ K2 r2 (by omega) hs2 hR2 hsum kk
set_option maxRecDepth 4000 in
theorem c_TC_mean {n : Nat} {kd vd : Nat → Int32} {ln : Nat → Nat} {cl : List sp_Cl} {x y : Int32} (hD : 10 ≤ D) (hR : tc_R mn sc MZ r) (hst : st_ok mn sc K 0 n B kd vd ln cl) (hB : B ≤ 20000) (kb : ¬ ((1 ≤ x ∧ x ≤ 20) ∧ (0 ≤ y ∧ y ≤ 1)) → Q (some (.long (-9223372036854775808))) (HT K MZ r)) (kk : ((1 ≤ x ∧ x ≤ 20) ∧ (0 ≤ y ∧ y ≤ 1)) → ∀ nn, nn ≤ 20 → x = nI nn → ∀ p, p ≤ 400 → sp_sum (fun z => (sp_many (kd, vd, K.2.1 0 3, ln, n, cl) (K.1 0 9) (K.2.1 0 1) (K.2.1 0 2) nn z 0 0)) 20 1 0 = nI p → ∀ K2 (r2 : tc_r), tk [2, 3, 4] K K2 → tc_R mn sc MZ r2 → Q (some (.long (sp_low p 20 y))) (HT K2 MZ r2)) : px_W G D 0 0 m_TC_mean 0 (px_ent 5 [.ref 0, .int x, .int y]) [] (HT K MZ r) Q := by
  show px_W _ _ _ _ _ _ [some (.ref 0), some (.int x), some (.int y), none, none] [] _ _
  refine wp_iload_n d_TC_mean_0 rfl rfl ?_
  refine wp_iconst (v := 1) d_TC_mean_1 rfl ?_
  refine wp_icmp_lt (t := 18) d_TC_mean_2 (by decide) (fun c_2 => ?_) (fun c_2 => ?_)
  · skip
    refine wp_ldc2 d_TC_mean_18 w_820 ?_
    refine wp_lreturn d_TC_mean_21 rfl ?_
    first
      | exact kb (fun z => absurd z.1.1 (Int32.not_le.mpr c_2))
      | exact kb (fun z => absurd z.1.2 (Int32.not_le.mpr c_8))
      | exact kb (fun z => hy z.2)
  · skip
    refine wp_iload_n d_TC_mean_5 rfl rfl ?_
    refine wp_bipush (v := 20) d_TC_mean_6 (by decide) ?_
    refine wp_icmp_gt (t := 18) d_TC_mean_8 (by decide) (fun c_8 => ?_) (fun c_8 => ?_)
    · skip
      refine wp_ldc2 d_TC_mean_18 w_820 ?_
      refine wp_lreturn d_TC_mean_21 rfl ?_
      first
        | exact kb (fun z => absurd z.1.1 (Int32.not_le.mpr c_2))
        | exact kb (fun z => absurd z.1.2 (Int32.not_le.mpr c_8))
        | exact kb (fun z => hy z.2)
    · skip
      refine wp_iload_n d_TC_mean_11 rfl rfl ?_
      refine wp_callS (M' := m_TC_isNoPart) (as := [_]) (D' := D - 1) (C1 := 0) (C2 := 0) (S1 := 0) (S2 := 0) d_TC_mean_12 w_817 w_818 k_TC_isNoPart (Nat.le_of_ble_eq_true rfl) rfl (Nat.le_of_ble_eq_true rfl) (by omega) rfl rfl ?_
      refine c_TC_isNoPart (by omega)  (fun hy => ?_) (fun hy => ?_)
      · skip
        refine wp_if_eq (t := 22) d_TC_mean_15 (by decide) (fun c_15 => (absurd c_15 (by decide))) (fun c_15 => ?_)
        refine wp_ldc2 d_TC_mean_18 w_820 ?_
        refine wp_lreturn d_TC_mean_21 rfl ?_
        first
          | exact kb (fun z => absurd z.1.1 (Int32.not_le.mpr c_2))
          | exact kb (fun z => absurd z.1.2 (Int32.not_le.mpr c_8))
          | exact kb (fun z => hy z.2)
      · skip
        refine wp_if_eq (t := 22) d_TC_mean_15 (by decide) (fun c_15 => ?_) (fun c_15 => (absurd c_15 (by decide)))
        have hx : 1 ≤ x ∧ x ≤ 20 := ⟨Int32.not_lt.mp c_2, Int32.not_lt.mp c_8⟩
        obtain ⟨nn, hn20, rfl⟩ := sp_n1 (M := 20) (N := 20) rfl hx
        refine wp_aload_n d_TC_mean_22 rfl rfl rfl ?_
        refine gC_2 gf_TC_38_0 d_TC_mean_23 ?_
        refine wp_aload_n d_TC_mean_26 rfl rfl rfl ?_
        refine gC_0 gf_TC_24_0 d_TC_mean_27 ?_
        refine wp_callV (r := (R_2, T_2, 6)) (M' := m_Tr_startFrom) (as := [_]) (D' := D - 1) (C1 := 0) (C2 := 0) (S1 := 0) (S2 := 0) d_TC_mean_30 rfl w_704 w_705 w_706 tt_23 k_Tr_startFrom (Nat.le_of_ble_eq_true rfl) rfl (Nat.le_of_ble_eq_true rfl) (by omega) rfl rfl ?_
        refine c_st (by omega) hR hst (fun K1 hs hj2 hk2 => ?_)
        refine wp_iconst (v := 0) d_TC_mean_33 rfl ?_
        refine wp_istore_n (ls' := [_, _, _, _, _]) d_TC_mean_34 rfl (by decide) rfl ?_
        refine wp_iconst (v := (nI 1)) d_TC_mean_35 rfl ?_
        refine wp_istore (ls' := [_, _, _, _, _]) d_TC_mean_36 (by decide) rfl ?_
        obtain ⟨p, hp, ep⟩ := sp_sum_n (g := (fun z => (sp_many (kd, vd, K.2.1 0 3, ln, n, cl) (K.1 0 9) (K.2.1 0 1) (K.2.1 0 2) nn z 0 0))) (N := 20) (fun b => by
          obtain ⟨a, ha, ea⟩ := sp_many_n (kd, vd, K.2.1 0 3, ln, n, cl) (K.1 0 9) (K.2.1 0 1) (K.2.1 0 2) nn b 0 0
          exact ⟨a, by omega, ea⟩) 20 1 0 0 rfl
        exact l_TC_mean_38 hD hB (by omega) (show p ≤ 400 by omega) 20 1 0 K1 r (by decide) hs hR ep (fun K2 r2 h1 h2 => kk ⟨hx, hy⟩ nn hn20 rfl p (by omega) ep K2 r2 h1.1 h2)
end TDE
