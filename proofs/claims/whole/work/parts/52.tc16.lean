theorem fl_bit {ups fell many : Int32} {t : Nat} (h : fl_ok 20 ups fell many) (ht : t < 20) : ((fell >>> (nI t &&& 31)) &&& 1 = 0) ↔ ((ups >>> (nI t &&& 31)) &&& 1 = 1) := by
  obtain ⟨u, f, mm, h1, h2, rfl, rfl, h5, -⟩ := h
  have sh : ∀ a : Nat, a < 2 ^ 20 → (nI a >>> (nI t &&& 31)) &&& 1 = nI (a / 2 ^ t % 2) := fun a ha => by
    have hs : ∀ t, t < 20 → (((nI t &&& 31)).toBitVec.smod 32).toNat = t := by decide
    rw [pk_shrN (by omega) _ t (hs t ht)]
    apply Int32.toBitVec_inj.mp
    show BitVec.ofNat 32 (a / 2 ^ t) &&& BitVec.ofNat 32 1 = BitVec.ofNat 32 (a / 2 ^ t % 2)
    rw [← BitVec.ofNat_and, Nat.and_one_is_mod]
  rw [sh f h2, sh u h1]
  have hb := h5 t
  rw [decide_eq_true ht, Nat.testBit_eq_decide_div_mod_eq, Nat.testBit_eq_decide_div_mod_eq] at hb
  have m1 := Nat.mod_lt (u / 2 ^ t) (show 0 < 2 by decide)
  have m2 := Nat.mod_lt (f / 2 ^ t) (show 0 < 2 by decide)
  rw [show ((1 : Int32)) = nI 1 from rfl, show ((0 : Int32)) = nI 0 from rfl, nI_eq (by omega) (by decide), nI_eq (by omega) (by decide)]
  constructor
  · intro e
    rw [e] at hb
    by_cases e2 : u / 2 ^ t % 2 = 1
    · exact e2
    · rw [decide_eq_false e2] at hb; cases hb
  · intro e
    rw [e] at hb
    by_cases e2 : f / 2 ^ t % 2 = 1
    · rw [e2] at hb; cases hb
    · omega
theorem fl_xor {ups fell many dn : Int32} (h : fl_ok 20 ups fell many) : fell = dn ↔ ups ^^^ dn = 1048575 := by
  obtain ⟨u, f, mm, h1, h2, rfl, rfl, h5, -⟩ := h
  have e : nI u ^^^ nI f = 1048575 := by
    apply Int32.toBitVec_inj.mp
    show BitVec.ofNat 32 u ^^^ BitVec.ofNat 32 f = BitVec.ofNat 32 1048575
    rw [← BitVec.ofNat_xor]
    congr 1
    apply Nat.eq_of_testBit_eq
    intro i
    rw [Nat.testBit_xor, h5 i, show (1048575 : Nat) = 2 ^ 20 - 1 from rfl, Nat.testBit_two_pow_sub_one]
  rw [← e]
  constructor
  · intro z; rw [z]
  · intro z
    have z2 := congrArg (fun y => nI u ^^^ y) z
    have c : ∀ y : Int32, nI u ^^^ (nI u ^^^ y) = y := fun y => by
      rw [← Int32.xor_assoc, Int32.xor_self, Int32.zero_xor]
    have z3 : nI u ^^^ (nI u ^^^ dn) = nI u ^^^ (nI u ^^^ nI f) := z2
    rw [c, c] at z3
    exact z3.symm
section TDF
variable {G : px_G} {D : Nat} {K K1 : tc_K} {MZ h : px_H} {r r1 : tc_r} {Q : Option Value → px_H → Prop} {mn : tc_mn} {sc : tc_sc} {B : Nat} {S : sp_St} {t0 : Int32} {hl fr : Nat → Int32}
theorem c_TC_startWithTired {n mm : Nat} {kd vd : Nat → Int32} {ln : Nat → Nat} {cl : List sp_Cl} (hD : 3 ≤ D) (hR : tc_R mn sc MZ r) (hst : st_ok mn sc K 0 n B kd vd ln cl) (hm : mm < 6) (k : ∀ K2, strt mn sc K K2 (B + 40) (kd, vd, K.2.1 0 3, ln, n, cl) (K.1 0 9) (up40 (K.2.1 0 1) mm) (K.2.1 0 2) → Q none (HT K2 MZ r)) : px_W G D 0 0 m_TC_startWithTired 0 (px_ent 2 [.ref 0, .int (nI mm)]) [] (HT K MZ r) Q := by
  show px_W _ _ _ _ _ _ [some (.ref 0), some (.int (nI mm))] [] _ _
  refine wp_aload_n d_TC_startWithTired_0 rfl rfl rfl ?_
  refine gC_2 gf_TC_38_0 d_TC_startWithTired_1 ?_
  refine wp_aload_n d_TC_startWithTired_4 rfl rfl rfl ?_
  refine gC_0 gf_TC_24_0 d_TC_startWithTired_5 ?_
  refine wp_callV (r := (R_2, T_2, 6)) (M' := m_Tr_startFrom) (as := [_]) (D' := D - 1) (C1 := 0) (C2 := 0) (S1 := 0) (S2 := 0) d_TC_startWithTired_8 rfl w_704 w_705 w_706 tt_23 k_Tr_startFrom (Nat.le_of_ble_eq_true rfl) rfl (Nat.le_of_ble_eq_true rfl) (by omega) rfl rfl ?_
  refine c_st (by omega) hR hst (fun K1 hs hj2 hk2 => ?_)
  refine wp_aload_n d_TC_startWithTired_11 rfl rfl rfl ?_
  refine gC_2 gf_TC_38_0 d_TC_startWithTired_12 ?_
  refine gR_0 gf_TC_206_2 d_TC_startWithTired_15 ?_
  refine gK_1 (s := 2) (by decide) gf_TC_112_1 d_TC_startWithTired_18 ?_
  refine wp_iload_n d_TC_startWithTired_21 rfl rfl ?_
  refine wp_dup2 d_TC_startWithTired_22 rfl rfl ?_
  refine lK_1 (s := 2) (by decide) d_TC_startWithTired_23 (vp_in_nI hm (by decide)) ?_
  refine wp_bipush (v := 40) d_TC_startWithTired_24 (by decide) ?_
  refine wp_iadd d_TC_startWithTired_26 ?_
  refine toS 2 ?_
  refine sS_1 (by decide) d_TC_startWithTired_27 (vp_in_nI hm (by decide)) ?_
  refine wp_return d_TC_startWithTired_28 rfl ?_
  rw [nI_clamp (by omega)]
  obtain ⟨g1, g2, g3, g4, g5, g6⟩ := hs
  refine k _ ⟨g1.s 2 (by decide) _ _ _ _, ?_, ?_⟩
  · obtain ⟨w1, w2, w3, w4, w5, w6⟩ := g2
    unfold st_ok
    rw [(ks_s K1 2 (K1.1 2) _ _ _).1, (ks_s K1 2 (K1.1 2) _ _ _).2.1, (ks_s K1 2 (K1.1 2) _ _ _).2.2.1, (ks_s K1 2 (K1.1 2) _ _ _).2.2.2]
    refine ⟨w1, fun q hq => ?_, w3, w4, w5, w6⟩
    obtain ⟨hh, a1, a2⟩ := w2 q hq
    show ∃ hh, hh ≤ B + 40 ∧ (if q = mm then K1.2.1 2 1 mm + 40 else K1.2.1 2 1 q) = nI hh
    by_cases e : q = mm
    · rw [if_pos e, ← e, a2]
      exact ⟨hh + 40, by omega, nI_add hh 40⟩
    · rw [if_neg e]
      exact ⟨hh, by omega, a2⟩
  · refine ⟨g3, g4, fun q hq => ?_, g6⟩
    show (if q = mm then K1.2.1 2 1 mm + 40 else K1.2.1 2 1 q) = (if q = mm then K.2.1 0 1 mm + 40 else K.2.1 0 1 q)
    rw [g5 mm hm, g5 q hq]
set_option maxRecDepth 4000 in
theorem l_TC_who_23 {n : Nat} {kd vd : Nat → Int32} {ln : Nat → Nat} {cl : List sp_Cl} {bt dn : Int32} (hD : 10 ≤ D) (hst : st_ok mn sc K 0 n B kd vd ln cl) (hB : B ≤ 10000) (h7 : K.1 0 7 = nI n) : ∀ (q m : Nat) (z : Int32) (K1 : tc_K) (r1 : tc_r), m + q = n → tk [2, 3, 4] K K1 → tc_R mn sc MZ r1 → (∀ K2 (r2 : tc_r), tk [2, 3, 4] K K2 → tc_R mn sc MZ r2 → Q (some (.int (sp_who (fun m => (sp_ups (kd, vd, K.2.1 0 3, ln, n, cl) (K.1 0 9) (up40 (K.2.1 0 1) m) (K.2.1 0 2) 20 bt 0 0)) dn q m z))) (HT K2 MZ r2)) → px_W G D 0 0 m_TC_who 23 [some (.ref 0), some (.int bt), some (.int dn), some (.int z), some (.int (nI m))] [] (HT K1 MZ r1) Q := by
  intro q
  have hn6 := hst.1.1
  induction q with
  | zero =>
    intro m z K1 r1 hmq hk1 hR1 kk
    refine wp_iload d_TC_who_23 rfl ?_
    refine wp_aload_n d_TC_who_25 rfl rfl rfl ?_
    refine gC_0 gf_TC_24_0 d_TC_who_26 ?_
    refine gK_7 (s := 0) (by decide) gf_TC_67_1 d_TC_who_29 ?_
    rw [(hk1.1 0 (by decide)).1, h7]
    refine wp_icmp_ge (t := 75) d_TC_who_32 (by decide) (fun c_32 => ?_) (fun c_32 => absurd (nI_le (by omega) (by omega)) c_32)
    refine wp_iload_n d_TC_who_75 rfl rfl ?_
    refine wp_ireturn d_TC_who_76 rfl rfl ?_
    exact kk K1 r1 hk1 hR1
  | succ q ih =>
    intro m z K1 r1 hmq hk1 hR1 kk
    refine wp_iload d_TC_who_23 rfl ?_
    refine wp_aload_n d_TC_who_25 rfl rfl rfl ?_
    refine gC_0 gf_TC_24_0 d_TC_who_26 ?_
    refine gK_7 (s := 0) (by decide) gf_TC_67_1 d_TC_who_29 ?_
    rw [(hk1.1 0 (by decide)).1, h7]
    refine wp_icmp_ge (t := 75) d_TC_who_32 (by decide) (fun c_32 => absurd c_32 (nI_ge (by omega) (by omega))) (fun c_32 => ?_)
    refine wp_aload_n d_TC_who_35 rfl rfl rfl ?_
    refine wp_iload d_TC_who_36 rfl ?_
    refine wp_callV (r := (R_0, T_0, 11)) (M' := m_TC_startWithTired) (as := [_]) (D' := D - 1) (C1 := 0) (C2 := 0) (S1 := 0) (S2 := 0) d_TC_who_38 rfl w_809 w_811 w_14 tt_0 k_TC_startWithTired (Nat.le_of_ble_eq_true rfl) rfl (Nat.le_of_ble_eq_true rfl) (by omega) rfl rfl ?_
    refine c_TC_startWithTired (by omega) hR1 (hst.tk hk1 (by decide)) (by omega) (fun K3 hsT => ?_)
    obtain ⟨t1, t2, t3, t4⟩ := hk1.1 0 (by decide)
    rw [t1, t2] at hsT
    have hsK := strt.re hsT hk1
    refine wp_aload_n d_TC_who_41 rfl rfl rfl ?_
    refine gC_2 gf_TC_38_0 d_TC_who_42 ?_
    refine wp_bipush (v := (nI 20)) d_TC_who_45 (by decide) ?_
    refine wp_iload_n d_TC_who_47 rfl rfl ?_
    refine wp_callV (r := (R_2, T_2, 6)) (M' := m_Tr_throwTubes) (as := [_, _]) (D' := D - 1) (C1 := 0) (C2 := 0) (S1 := 0) (S2 := 0) d_TC_who_48 rfl w_712 w_713 w_714 tt_23 k_Tr_throwTubes (Nat.le_of_ble_eq_true rfl) rfl (Nat.le_of_ble_eq_true rfl) (by omega) rfl rfl ?_
    refine c_tt (by omega) hR1 hsK (by omega) (by omega) (fun K2 r2 hs2 hR2 m1 m2 m3 m4 => ?_)
    refine wp_aload_n d_TC_who_51 rfl rfl rfl ?_
    refine gC_2 gf_TC_38_0 d_TC_who_52 ?_
    refine gR_5 gf_TC_229_2 d_TC_who_55 ?_
    refine wp_iload_n d_TC_who_58 rfl rfl ?_
    refine wp_icmp_ne (t := 69) d_TC_who_59 (by decide) (fun c_59 => ?_) (fun c_59 => ?_)
    · skip
      refine wp_iinc (v := _ + 1) (ls' := [_, _, _, _, _]) d_TC_who_69 (by decide) rfl rfl rfl ?_
      refine wp_goto (t := 23) d_TC_who_72 (by decide) ?_
      rw [show nI m + 1 = nI (m + 1) from nI_1 m]
      have hww : ∀ dn, sp_who (fun m => (sp_ups (kd, vd, K.2.1 0 3, ln, n, cl) (K.1 0 9) (up40 (K.2.1 0 1) m) (K.2.1 0 2) 20 bt 0 0)) dn (q + 1) m z = sp_who (fun m => (sp_ups (kd, vd, K.2.1 0 3, ln, n, cl) (K.1 0 9) (up40 (K.2.1 0 1) m) (K.2.1 0 2) 20 bt 0 0)) dn q (m + 1) (z ||| (if (sp_ups (kd, vd, K.2.1 0 3, ln, n, cl) (K.1 0 9) (up40 (K.2.1 0 1) m) (K.2.1 0 2) 20 bt 0 0) ^^^ dn = 1048575 then 1 <<< (nI m &&& 31) else 0)) := fun _ => rfl
      rw [hww] at kk
      first
        | (rw [if_pos ((fl_xor m4).mp c_59)] at kk; exact ih (m + 1) _ K2 r2 (by omega) hs2.1 hR2 kk)
        | (rw [if_neg (fun y => c_59 ((fl_xor m4).mpr y)), Int32.or_zero] at kk; exact ih (m + 1) _ K2 r2 (by omega) hs2.1 hR2 kk)
    · skip
      refine wp_iload_n d_TC_who_62 rfl rfl ?_
      refine wp_iconst (v := 1) d_TC_who_63 rfl ?_
      refine wp_iload d_TC_who_64 rfl ?_
      refine wp_ishl d_TC_who_66 ?_
      refine wp_ior d_TC_who_67 ?_
      refine wp_istore_n (ls' := [_, _, _, _, _]) d_TC_who_68 rfl (by decide) rfl ?_
      refine wp_iinc (v := _ + 1) (ls' := [_, _, _, _, _]) d_TC_who_69 (by decide) rfl rfl rfl ?_
      refine wp_goto (t := 23) d_TC_who_72 (by decide) ?_
      rw [show nI m + 1 = nI (m + 1) from nI_1 m]
      have hww : ∀ dn, sp_who (fun m => (sp_ups (kd, vd, K.2.1 0 3, ln, n, cl) (K.1 0 9) (up40 (K.2.1 0 1) m) (K.2.1 0 2) 20 bt 0 0)) dn (q + 1) m z = sp_who (fun m => (sp_ups (kd, vd, K.2.1 0 3, ln, n, cl) (K.1 0 9) (up40 (K.2.1 0 1) m) (K.2.1 0 2) 20 bt 0 0)) dn q (m + 1) (z ||| (if (sp_ups (kd, vd, K.2.1 0 3, ln, n, cl) (K.1 0 9) (up40 (K.2.1 0 1) m) (K.2.1 0 2) 20 bt 0 0) ^^^ dn = 1048575 then 1 <<< (nI m &&& 31) else 0)) := fun _ => rfl
      rw [hww] at kk
      first
        | (rw [if_pos ((fl_xor m4).mp c_59)] at kk; exact ih (m + 1) _ K2 r2 (by omega) hs2.1 hR2 kk)
        | (rw [if_neg (fun y => c_59 ((fl_xor m4).mpr y)), Int32.or_zero] at kk; exact ih (m + 1) _ K2 r2 (by omega) hs2.1 hR2 kk)
set_option maxRecDepth 4000 in
theorem c_TC_who {n : Nat} {kd vd : Nat → Int32} {ln : Nat → Nat} {cl : List sp_Cl} {bt : Int32} {ns : Nat} (hD : 10 ≤ D) (hR : tc_R mn sc MZ r) (hst : st_ok mn sc K 0 n B kd vd ln cl) (hB : B ≤ 10000) (h7 : K.1 0 7 = nI n) (h12 : K.1 0 12 = nI ns) (hs6 : ns ≤ 6) (kb : ¬ (1 ≤ bt ∧ bt ≤ 99) → Q (some (.int (-2))) (HT K MZ r)) (kk : (1 ≤ bt ∧ bt ≤ 99) → ∀ K2 (r2 : tc_r), tk [2, 3, 4] K K2 → tc_R mn sc MZ r2 → Q (some (.int (sp_who (fun m => (sp_ups (kd, vd, K.2.1 0 3, ln, n, cl) (K.1 0 9) (up40 (K.2.1 0 1) m) (K.2.1 0 2) 20 bt 0 0)) (sp_dn (K.2.1 0 5) ns 0 0) n 0 0))) (HT K2 MZ r2)) : px_W G D 0 0 m_TC_who 0 (px_ent 5 [.ref 0, .int bt]) [] (HT K MZ r) Q := by
  show px_W _ _ _ _ _ _ [some (.ref 0), some (.int bt), none, none, none] [] _ _
  refine wp_iload_n d_TC_who_0 rfl rfl ?_
  refine wp_callS (M' := m_TC_isNoBeat) (as := [_]) (D' := D - 1) (C1 := 0) (C2 := 0) (S1 := 0) (S2 := 0) d_TC_who_1 w_669 w_670 k_TC_isNoBeat (Nat.le_of_ble_eq_true rfl) rfl (Nat.le_of_ble_eq_true rfl) (by omega) rfl rfl ?_
  refine c_TC_isNoBeat (by omega)  (fun hbt => ?_) (fun hbt => ?_)
  · skip
    refine wp_if_eq (t := 10) d_TC_who_4 (by decide) (fun c_4 => (absurd c_4 (by decide))) (fun c_4 => ?_)
    refine wp_bipush (v := (-2)) d_TC_who_7 (by decide) ?_
    refine wp_ireturn d_TC_who_9 rfl rfl ?_
    exact kb hbt
  · skip
    refine wp_if_eq (t := 10) d_TC_who_4 (by decide) (fun c_4 => ?_) (fun c_4 => (absurd c_4 (by decide)))
    refine wp_aload_n d_TC_who_10 rfl rfl rfl ?_
    refine gC_0 gf_TC_24_0 d_TC_who_11 ?_
    refine toS 0 ?_
    refine wp_callV (r := (R_1, T_1, 15)) (M' := m_Si_seenAsBits) (as := []) (D' := D - 1) (C1 := 0) (C2 := 0) (S1 := 0) (S2 := 0) d_TC_who_14 rfl w_805 w_806 w_807 (ts_0 (by decide)) k_Si_seenAsBits (Nat.le_of_ble_eq_true rfl) rfl (Nat.le_of_ble_eq_true rfl) (by omega) rfl rfl ?_
    refine c_Si_seenAsBits (by omega) (by decide) h12 hs6 ?_
    rw [ks_id]
    refine wp_istore_n (ls' := [_, _, _, _, _]) d_TC_who_17 rfl (by decide) rfl ?_
    refine wp_iconst (v := 0) d_TC_who_18 rfl ?_
    refine wp_istore_n (ls' := [_, _, _, _, _]) d_TC_who_19 rfl (by decide) rfl ?_
    refine wp_iconst (v := (nI 0)) d_TC_who_20 rfl ?_
    refine wp_istore (ls' := [_, _, _, _, _]) d_TC_who_21 (by decide) rfl ?_
    exact l_TC_who_23 hD hst hB h7 n 0 0 K r (Nat.zero_add n) tk.rf hR (kk hbt)
set_option maxRecDepth 4000 in
theorem l_TC_odds_45 {n : Nat} {kd vd : Nat → Int32} {ln : Nat → Nat} {cl : List sp_Cl} {nn p : Nat} {bt y : Int32} (hD : 10 ≤ D) (hst : st_ok mn sc K 0 n B kd vd ln cl) (hB : B ≤ 10000) (h7 : K.1 0 7 = nI n) (hn30 : nn ≤ 30) (hn0 : 0 < n) (hp : p ≤ 6) : ∀ (q m : Nat) (z : Int32) (K1 : tc_K) (r1 : tc_r), m + q = n → tk [2, 3, 4] K K1 → tc_R mn sc MZ r1 → sp_good (fun m => (sp_many (kd, vd, K.2.1 0 3, ln, n, cl) (K.1 0 9) (up40 (K.2.1 0 1) m) (K.2.1 0 2) nn bt 0 0)) (nI nn) q m z = nI p → (∀ K2 (r2 : tc_r), tk [2, 3, 4] K K2 → tc_R mn sc MZ r2 → Q (some (.long (sp_low p n y))) (HT K2 MZ r2)) → px_W G D 0 0 m_TC_odds 45 [some (.ref 0), some (.int (nI nn)), some (.int bt), some (.int y), some (.int z), some (.int (nI m))] [] (HT K1 MZ r1) Q := by
  intro q
  have hn6 := hst.1.1
  induction q with
  | zero =>
    intro m z K1 r1 hmq hk1 hR1 hgo kk
    refine wp_iload d_TC_odds_45 rfl ?_
    refine wp_aload_n d_TC_odds_47 rfl rfl rfl ?_
    refine gC_0 gf_TC_24_0 d_TC_odds_48 ?_
    refine gK_7 (s := 0) (by decide) gf_TC_67_1 d_TC_odds_51 ?_
    rw [(hk1.1 0 (by decide)).1, h7]
    refine wp_icmp_ge (t := 86) d_TC_odds_54 (by decide) (fun c_54 => ?_) (fun c_54 => absurd (nI_le (by omega) (by omega)) c_54)
    refine wp_iload d_TC_odds_86 rfl ?_
    refine wp_aload_n d_TC_odds_88 rfl rfl rfl ?_
    refine gC_0 gf_TC_24_0 d_TC_odds_89 ?_
    refine gK_7 (s := 0) (by decide) gf_TC_67_1 d_TC_odds_92 ?_
    rw [show z = nI p from hgo, (hk1.1 0 (by decide)).1, h7]
    refine wp_iload_n d_TC_odds_95 rfl rfl ?_
    refine wp_callS (M' := m_TC_partOfFraction) (as := [_, _, _]) (D' := D - 1) (C1 := 0) (C2 := 0) (S1 := 0) (S2 := 0) d_TC_odds_96 w_821 w_822 k_TC_partOfFraction (Nat.le_of_ble_eq_true rfl) rfl (Nat.le_of_ble_eq_true rfl) (by omega) rfl rfl ?_
    refine c_TC_partOfFraction (by omega) (by omega) (by omega) (by omega) ?_
    refine wp_lreturn d_TC_odds_99 rfl ?_
    exact kk K1 r1 hk1 hR1
  | succ q ih =>
    intro m z K1 r1 hmq hk1 hR1 hgo kk
    refine wp_iload d_TC_odds_45 rfl ?_
    refine wp_aload_n d_TC_odds_47 rfl rfl rfl ?_
    refine gC_0 gf_TC_24_0 d_TC_odds_48 ?_
    refine gK_7 (s := 0) (by decide) gf_TC_67_1 d_TC_odds_51 ?_
    rw [(hk1.1 0 (by decide)).1, h7]
    refine wp_icmp_ge (t := 86) d_TC_odds_54 (by decide) (fun c_54 => absurd c_54 (nI_ge (by omega) (by omega))) (fun c_54 => ?_)
    refine wp_aload_n d_TC_odds_57 rfl rfl rfl ?_
    refine wp_iload d_TC_odds_58 rfl ?_
    refine wp_callV (r := (R_0, T_0, 11)) (M' := m_TC_startWithTired) (as := [_]) (D' := D - 1) (C1 := 0) (C2 := 0) (S1 := 0) (S2 := 0) d_TC_odds_60 rfl w_809 w_811 w_14 tt_0 k_TC_startWithTired (Nat.le_of_ble_eq_true rfl) rfl (Nat.le_of_ble_eq_true rfl) (by omega) rfl rfl ?_
    refine c_TC_startWithTired (by omega) hR1 (hst.tk hk1 (by decide)) (by omega) (fun K3 hsT => ?_)
    obtain ⟨t1, t2, t3, t4⟩ := hk1.1 0 (by decide)
    rw [t1, t2] at hsT
    have hsK := strt.re hsT hk1
    refine wp_aload_n d_TC_odds_63 rfl rfl rfl ?_
    refine gC_2 gf_TC_38_0 d_TC_odds_64 ?_
    refine wp_iload_n d_TC_odds_67 rfl rfl ?_
    refine wp_iload_n d_TC_odds_68 rfl rfl ?_
    refine wp_iconst (v := (nI 0)) d_TC_odds_69 rfl ?_
    refine wp_iconst (v := 0) d_TC_odds_70 rfl ?_
    refine wp_callV (r := (R_2, T_2, 6)) (M' := m_Tr_noneFalls) (as := [_, _, _, _]) (D' := D - 1) (C1 := 0) (C2 := 0) (S1 := 0) (S2 := 0) d_TC_odds_71 rfl w_791 w_738 w_739 tt_23 k_Tr_noneFalls (Nat.le_of_ble_eq_true rfl) rfl (Nat.le_of_ble_eq_true rfl) (by omega) rfl rfl ?_
    refine c_nf (by omega) hR1 hsK (by omega) (by omega) (by decide) (fun hg K2 r2 hs2 hR2 => ?_) (fun hg K2 r2 hs2 hR2 => ?_)
    · skip
      refine wp_if_eq (t := 80) d_TC_odds_74 (by decide) (fun c_74 => (absurd c_74 (by decide))) (fun c_74 => ?_)
      refine wp_iinc (v := _ + 1) (ls' := [_, _, _, _, _, _]) d_TC_odds_77 (by decide) rfl rfl rfl ?_
      refine wp_iinc (v := _ + 1) (ls' := [_, _, _, _, _, _]) d_TC_odds_80 (by decide) rfl rfl rfl ?_
      refine wp_goto (t := 45) d_TC_odds_83 (by decide) ?_
      rw [show nI m + 1 = nI (m + 1) from nI_1 m]
      have hgg : sp_good (fun m => (sp_many (kd, vd, K.2.1 0 3, ln, n, cl) (K.1 0 9) (up40 (K.2.1 0 1) m) (K.2.1 0 2) nn bt 0 0)) (nI nn) (q + 1) m z = sp_good (fun m => (sp_many (kd, vd, K.2.1 0 3, ln, n, cl) (K.1 0 9) (up40 (K.2.1 0 1) m) (K.2.1 0 2) nn bt 0 0)) (nI nn) q (m + 1) (z + (if (sp_many (kd, vd, K.2.1 0 3, ln, n, cl) (K.1 0 9) (up40 (K.2.1 0 1) m) (K.2.1 0 2) nn bt 0 0) = nI nn then 1 else 0)) := rfl
      rw [hgg] at hgo
      first
        | (rw [if_pos hg] at hgo; exact ih (m + 1) _ K2 r2 (by omega) hs2.1 hR2 hgo kk)
        | (rw [if_neg hg, Int32.add_zero] at hgo; exact ih (m + 1) _ K2 r2 (by omega) hs2.1 hR2 hgo kk)
    · skip
      refine wp_if_eq (t := 80) d_TC_odds_74 (by decide) (fun c_74 => ?_) (fun c_74 => (absurd c_74 (by decide)))
      refine wp_iinc (v := _ + 1) (ls' := [_, _, _, _, _, _]) d_TC_odds_80 (by decide) rfl rfl rfl ?_
      refine wp_goto (t := 45) d_TC_odds_83 (by decide) ?_
      rw [show nI m + 1 = nI (m + 1) from nI_1 m]
      have hgg : sp_good (fun m => (sp_many (kd, vd, K.2.1 0 3, ln, n, cl) (K.1 0 9) (up40 (K.2.1 0 1) m) (K.2.1 0 2) nn bt 0 0)) (nI nn) (q + 1) m z = sp_good (fun m => (sp_many (kd, vd, K.2.1 0 3, ln, n, cl) (K.1 0 9) (up40 (K.2.1 0 1) m) (K.2.1 0 2) nn bt 0 0)) (nI nn) q (m + 1) (z + (if (sp_many (kd, vd, K.2.1 0 3, ln, n, cl) (K.1 0 9) (up40 (K.2.1 0 1) m) (K.2.1 0 2) nn bt 0 0) = nI nn then 1 else 0)) := rfl
      rw [hgg] at hgo
      first
        | (rw [if_pos hg] at hgo; exact ih (m + 1) _ K2 r2 (by omega) hs2.1 hR2 hgo kk)
        | (rw [if_neg hg, Int32.add_zero] at hgo; exact ih (m + 1) _ K2 r2 (by omega) hs2.1 hR2 hgo kk)
set_option maxRecDepth 4000 in
theorem c_TC_odds {n : Nat} {kd vd : Nat → Int32} {ln : Nat → Nat} {cl : List sp_Cl} {x bt y : Int32} (hD : 10 ≤ D) (hR : tc_R mn sc MZ r) (hst : st_ok mn sc K 0 n B kd vd ln cl) (hB : B ≤ 10000) (h7 : K.1 0 7 = nI n) (kb : ¬ ((1 ≤ x ∧ x ≤ 20) ∧ (1 ≤ bt ∧ bt ≤ 99) ∧ (0 ≤ y ∧ y ≤ 1) ∧ 0 < n) → Q (some (.long (-9223372036854775808))) (HT K MZ r)) (kk : ((1 ≤ x ∧ x ≤ 20) ∧ (1 ≤ bt ∧ bt ≤ 99) ∧ (0 ≤ y ∧ y ≤ 1) ∧ 0 < n) → ∀ nn, nn ≤ 20 → x = nI nn → ∀ p, p ≤ 6 → sp_good (fun m => (sp_many (kd, vd, K.2.1 0 3, ln, n, cl) (K.1 0 9) (up40 (K.2.1 0 1) m) (K.2.1 0 2) nn bt 0 0)) (nI nn) n 0 0 = nI p → ∀ K2 (r2 : tc_r), tk [2, 3, 4] K K2 → tc_R mn sc MZ r2 → Q (some (.long (sp_low p n y))) (HT K2 MZ r2)) : px_W G D 0 0 m_TC_odds 0 (px_ent 6 [.ref 0, .int x, .int bt, .int y]) [] (HT K MZ r) Q := by
  show px_W _ _ _ _ _ _ [some (.ref 0), some (.int x), some (.int bt), some (.int y), none, none] [] _ _
  refine wp_iload_n d_TC_odds_0 rfl rfl ?_
  refine wp_iconst (v := 1) d_TC_odds_1 rfl ?_
  refine wp_icmp_lt (t := 35) d_TC_odds_2 (by decide) (fun c_2 => ?_) (fun c_2 => ?_)
  · skip
    refine wp_ldc2 d_TC_odds_35 w_820 ?_
    refine wp_lreturn d_TC_odds_38 rfl ?_
    first
      | exact kb (fun z => absurd z.1.1 (Int32.not_le.mpr c_2))
      | exact kb (fun z => absurd z.1.2 (Int32.not_le.mpr c_8))
      | exact kb (fun z => hbt z.2.1)
      | exact kb (fun z => hy z.2.2.1)
      | exact kb (fun z => absurd c_32 (nI_ne0 z.2.2.2 (by have := hst.1.1; omega)))
      | exact kb (fun z => absurd (Decidable.of_not_not c_32) (nI_ne0 z.2.2.2 (by have := hst.1.1; omega)))
  · skip
    refine wp_iload_n d_TC_odds_5 rfl rfl ?_
    refine wp_bipush (v := 20) d_TC_odds_6 (by decide) ?_
    refine wp_icmp_gt (t := 35) d_TC_odds_8 (by decide) (fun c_8 => ?_) (fun c_8 => ?_)
    · skip
      refine wp_ldc2 d_TC_odds_35 w_820 ?_
      refine wp_lreturn d_TC_odds_38 rfl ?_
      first
        | exact kb (fun z => absurd z.1.1 (Int32.not_le.mpr c_2))
        | exact kb (fun z => absurd z.1.2 (Int32.not_le.mpr c_8))
        | exact kb (fun z => hbt z.2.1)
        | exact kb (fun z => hy z.2.2.1)
        | exact kb (fun z => absurd c_32 (nI_ne0 z.2.2.2 (by have := hst.1.1; omega)))
        | exact kb (fun z => absurd (Decidable.of_not_not c_32) (nI_ne0 z.2.2.2 (by have := hst.1.1; omega)))
    · skip
      refine wp_iload_n d_TC_odds_11 rfl rfl ?_
      refine wp_callS (M' := m_TC_isNoBeat) (as := [_]) (D' := D - 1) (C1 := 0) (C2 := 0) (S1 := 0) (S2 := 0) d_TC_odds_12 w_669 w_670 k_TC_isNoBeat (Nat.le_of_ble_eq_true rfl) rfl (Nat.le_of_ble_eq_true rfl) (by omega) rfl rfl ?_
      refine c_TC_isNoBeat (by omega)  (fun hbt => ?_) (fun hbt => ?_)
      · skip
        refine wp_if_ne (t := 35) d_TC_odds_15 (by decide) (fun c_15 => ?_) (fun c_15 => (absurd c_15 (by decide)))
        refine wp_ldc2 d_TC_odds_35 w_820 ?_
        refine wp_lreturn d_TC_odds_38 rfl ?_
        first
          | exact kb (fun z => absurd z.1.1 (Int32.not_le.mpr c_2))
          | exact kb (fun z => absurd z.1.2 (Int32.not_le.mpr c_8))
          | exact kb (fun z => hbt z.2.1)
          | exact kb (fun z => hy z.2.2.1)
          | exact kb (fun z => absurd c_32 (nI_ne0 z.2.2.2 (by have := hst.1.1; omega)))
          | exact kb (fun z => absurd (Decidable.of_not_not c_32) (nI_ne0 z.2.2.2 (by have := hst.1.1; omega)))
      · skip
        refine wp_if_ne (t := 35) d_TC_odds_15 (by decide) (fun c_15 => (absurd c_15 (by decide))) (fun c_15 => ?_)
        refine wp_iload_n d_TC_odds_18 rfl rfl ?_
        refine wp_callS (M' := m_TC_isNoPart) (as := [_]) (D' := D - 1) (C1 := 0) (C2 := 0) (S1 := 0) (S2 := 0) d_TC_odds_19 w_817 w_818 k_TC_isNoPart (Nat.le_of_ble_eq_true rfl) rfl (Nat.le_of_ble_eq_true rfl) (by omega) rfl rfl ?_
        refine c_TC_isNoPart (by omega)  (fun hy => ?_) (fun hy => ?_)
        · skip
          refine wp_if_ne (t := 35) d_TC_odds_22 (by decide) (fun c_22 => ?_) (fun c_22 => (absurd c_22 (by decide)))
          refine wp_ldc2 d_TC_odds_35 w_820 ?_
          refine wp_lreturn d_TC_odds_38 rfl ?_
          first
            | exact kb (fun z => absurd z.1.1 (Int32.not_le.mpr c_2))
            | exact kb (fun z => absurd z.1.2 (Int32.not_le.mpr c_8))
            | exact kb (fun z => hbt z.2.1)
            | exact kb (fun z => hy z.2.2.1)
            | exact kb (fun z => absurd c_32 (nI_ne0 z.2.2.2 (by have := hst.1.1; omega)))
            | exact kb (fun z => absurd (Decidable.of_not_not c_32) (nI_ne0 z.2.2.2 (by have := hst.1.1; omega)))
        · skip
          refine wp_if_ne (t := 35) d_TC_odds_22 (by decide) (fun c_22 => (absurd c_22 (by decide))) (fun c_22 => ?_)
          refine wp_aload_n d_TC_odds_25 rfl rfl rfl ?_
          refine gC_0 gf_TC_24_0 d_TC_odds_26 ?_
          refine gK_7 (s := 0) (by decide) gf_TC_67_1 d_TC_odds_29 ?_
          rw [h7]
          refine wp_if_ne (t := 39) d_TC_odds_32 (by decide) (fun c_32 => ?_) (fun c_32 => ?_)
          · skip
            have hx : 1 ≤ x ∧ x ≤ 20 := ⟨Int32.not_lt.mp c_2, Int32.not_lt.mp c_8⟩
            obtain ⟨nn, hn20, rfl⟩ := sp_n1 (M := 20) (N := 20) rfl hx
            refine wp_iconst (v := 0) d_TC_odds_39 rfl ?_
            refine wp_istore (ls' := [_, _, _, _, _, _]) d_TC_odds_40 (by decide) rfl ?_
            refine wp_iconst (v := (nI 0)) d_TC_odds_42 rfl ?_
            refine wp_istore (ls' := [_, _, _, _, _, _]) d_TC_odds_43 (by decide) rfl ?_
            have hn6 := hst.1.1
            have hn0 : 0 < n := Nat.pos_of_ne_zero (fun z => c_32 (by rw [z]; rfl))
            obtain ⟨p, hp, ep⟩ := sp_good_n (g := (fun m => (sp_many (kd, vd, K.2.1 0 3, ln, n, cl) (K.1 0 9) (up40 (K.2.1 0 1) m) (K.2.1 0 2) nn bt 0 0))) (n := nI nn) n 0 0 0 rfl
            exact l_TC_odds_45 hD hst hB h7 (by omega) hn0 (show p ≤ 6 by omega) n 0 0 K r (Nat.zero_add n) tk.rf hR ep (fun K2 r2 h1 h2 => kk ⟨hx, hbt, hy, hn0⟩ nn hn20 rfl p (by omega) ep K2 r2 h1 h2)
          · skip
            refine wp_ldc2 d_TC_odds_35 w_820 ?_
            refine wp_lreturn d_TC_odds_38 rfl ?_
            first
              | exact kb (fun z => absurd z.1.1 (Int32.not_le.mpr c_2))
              | exact kb (fun z => absurd z.1.2 (Int32.not_le.mpr c_8))
              | exact kb (fun z => hbt z.2.1)
              | exact kb (fun z => hy z.2.2.1)
              | exact kb (fun z => absurd c_32 (nI_ne0 z.2.2.2 (by have := hst.1.1; omega)))
              | exact kb (fun z => absurd (Decidable.of_not_not c_32) (nI_ne0 z.2.2.2 (by have := hst.1.1; omega)))
end TDF
