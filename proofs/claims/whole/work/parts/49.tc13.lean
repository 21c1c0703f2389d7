section TDC0
variable {G : px_G} {D C S : Nat} {M : px_M} {pc idx : Nat} {ls : px_L} {st : List Value} {K : tc_K} {MZ : px_H} {r : tc_r} {s : Nat} {Q : Option Value → px_H → Prop}
theorem gK_0 (hs : s < 4) (gf : px_GR M.1.cls idx 1 0) (d : decode M.2.1 pc = .ok (.getfield idx, 3)) (k : px_W G D C S M (pc + 3) ls (.ref (tc_p s + 1) :: st) (HT K MZ r) Q) : px_W G D C S M pc ls (.ref (tc_p s) :: st) (HT K MZ r) Q := wp_getf d gf (ht_lo (hc_s0 K r.1 s hs)) rfl k
theorem gK_1 (hs : s < 4) (gf : px_GR M.1.cls idx 1 1) (d : decode M.2.1 pc = .ok (.getfield idx, 3)) (k : px_W G D C S M (pc + 3) ls (.ref (tc_p s + 2) :: st) (HT K MZ r) Q) : px_W G D C S M pc ls (.ref (tc_p s) :: st) (HT K MZ r) Q := wp_getf d gf (ht_lo (hc_s0 K r.1 s hs)) rfl k
theorem gK_2 (hs : s < 4) (gf : px_GR M.1.cls idx 1 2) (d : decode M.2.1 pc = .ok (.getfield idx, 3)) (k : px_W G D C S M (pc + 3) ls (.ref (tc_p s + 3) :: st) (HT K MZ r) Q) : px_W G D C S M pc ls (.ref (tc_p s) :: st) (HT K MZ r) Q := wp_getf d gf (ht_lo (hc_s0 K r.1 s hs)) rfl k
theorem gK_3 (hs : s < 4) (gf : px_GR M.1.cls idx 1 3) (d : decode M.2.1 pc = .ok (.getfield idx, 3)) (k : px_W G D C S M (pc + 3) ls (.ref (tc_p s + 4) :: st) (HT K MZ r) Q) : px_W G D C S M pc ls (.ref (tc_p s) :: st) (HT K MZ r) Q := wp_getf d gf (ht_lo (hc_s0 K r.1 s hs)) rfl k
theorem gK_4 (hs : s < 4) (gf : px_GR M.1.cls idx 1 4) (d : decode M.2.1 pc = .ok (.getfield idx, 3)) (k : px_W G D C S M (pc + 3) ls (.ref (tc_p s + 5) :: st) (HT K MZ r) Q) : px_W G D C S M pc ls (.ref (tc_p s) :: st) (HT K MZ r) Q := wp_getf d gf (ht_lo (hc_s0 K r.1 s hs)) rfl k
theorem gK_5 (hs : s < 4) (gf : px_GR M.1.cls idx 1 5) (d : decode M.2.1 pc = .ok (.getfield idx, 3)) (k : px_W G D C S M (pc + 3) ls (.ref (tc_p s + 6) :: st) (HT K MZ r) Q) : px_W G D C S M pc ls (.ref (tc_p s) :: st) (HT K MZ r) Q := wp_getf d gf (ht_lo (hc_s0 K r.1 s hs)) rfl k
theorem gK_6 (hs : s < 4) (gf : px_GR M.1.cls idx 1 6) (d : decode M.2.1 pc = .ok (.getfield idx, 3)) (k : px_W G D C S M (pc + 3) ls (.ref (tc_p s + 7) :: st) (HT K MZ r) Q) : px_W G D C S M pc ls (.ref (tc_p s) :: st) (HT K MZ r) Q := wp_getf d gf (ht_lo (hc_s0 K r.1 s hs)) rfl k
theorem gK_7 (hs : s < 4) (gf : px_GR M.1.cls idx 1 7) (d : decode M.2.1 pc = .ok (.getfield idx, 3)) (k : px_W G D C S M (pc + 3) ls (.int (K.1 s 7) :: st) (HT K MZ r) Q) : px_W G D C S M pc ls (.ref (tc_p s) :: st) (HT K MZ r) Q := wp_getf d gf (ht_lo (hc_s0 K r.1 s hs)) rfl k
theorem gK_8 (hs : s < 4) (gf : px_GR M.1.cls idx 1 8) (d : decode M.2.1 pc = .ok (.getfield idx, 3)) (k : px_W G D C S M (pc + 3) ls (.int (K.1 s 8) :: st) (HT K MZ r) Q) : px_W G D C S M pc ls (.ref (tc_p s) :: st) (HT K MZ r) Q := wp_getf d gf (ht_lo (hc_s0 K r.1 s hs)) rfl k
theorem gK_9 (hs : s < 4) (gf : px_GR M.1.cls idx 1 9) (d : decode M.2.1 pc = .ok (.getfield idx, 3)) (k : px_W G D C S M (pc + 3) ls (.int (K.1 s 9) :: st) (HT K MZ r) Q) : px_W G D C S M pc ls (.ref (tc_p s) :: st) (HT K MZ r) Q := wp_getf d gf (ht_lo (hc_s0 K r.1 s hs)) rfl k
theorem gK_10 (hs : s < 4) (gf : px_GR M.1.cls idx 1 10) (d : decode M.2.1 pc = .ok (.getfield idx, 3)) (k : px_W G D C S M (pc + 3) ls (.int (K.1 s 10) :: st) (HT K MZ r) Q) : px_W G D C S M pc ls (.ref (tc_p s) :: st) (HT K MZ r) Q := wp_getf d gf (ht_lo (hc_s0 K r.1 s hs)) rfl k
theorem gK_11 (hs : s < 4) (gf : px_GR M.1.cls idx 1 11) (d : decode M.2.1 pc = .ok (.getfield idx, 3)) (k : px_W G D C S M (pc + 3) ls (.int (K.1 s 11) :: st) (HT K MZ r) Q) : px_W G D C S M pc ls (.ref (tc_p s) :: st) (HT K MZ r) Q := wp_getf d gf (ht_lo (hc_s0 K r.1 s hs)) rfl k
theorem gK_12 (hs : s < 4) (gf : px_GR M.1.cls idx 1 12) (d : decode M.2.1 pc = .ok (.getfield idx, 3)) (k : px_W G D C S M (pc + 3) ls (.int (K.1 s 12) :: st) (HT K MZ r) Q) : px_W G D C S M pc ls (.ref (tc_p s) :: st) (HT K MZ r) Q := wp_getf d gf (ht_lo (hc_s0 K r.1 s hs)) rfl k
theorem gK_13 (hs : s < 4) (gf : px_GR M.1.cls idx 1 13) (d : decode M.2.1 pc = .ok (.getfield idx, 3)) (k : px_W G D C S M (pc + 3) ls (.int (K.1 s 13) :: st) (HT K MZ r) Q) : px_W G D C S M pc ls (.ref (tc_p s) :: st) (HT K MZ r) Q := wp_getf d gf (ht_lo (hc_s0 K r.1 s hs)) rfl k
theorem gK_14 (hs : s < 4) (gf : px_GR M.1.cls idx 1 14) (d : decode M.2.1 pc = .ok (.getfield idx, 3)) (k : px_W G D C S M (pc + 3) ls (.ref (K.2.2.2.1 s) :: st) (HT K MZ r) Q) : px_W G D C S M pc ls (.ref (tc_p s) :: st) (HT K MZ r) Q := wp_getf d gf (ht_lo (hc_s0 K r.1 s hs)) rfl k
theorem lK_0 {i : Int32} (hs : s < 4) (d : decode M.2.1 pc = .ok (.aaload, 1)) (hi : vp_in i 6) (k : px_W G D C S M (pc + 1) ls (va_rf (K.2.2.1 s i.toNatClampNeg) :: st) (HT K MZ r) Q) : px_W G D C S M pc ls (.int i :: .ref (tc_p s + 1) :: st) (HT K MZ r) Q := wp_aald (t0 := 4) d (fun _ => rfl) (ht_lo (hc_a0 K r.1 s hs)) hi k
theorem lK_1 {i : Int32} (hs : s < 4) (d : decode M.2.1 pc = .ok (.iaload, 1)) (hi : vp_in i 6) (k : px_W G D C S M (pc + 1) ls (.int (K.2.1 s 1 i.toNatClampNeg) :: st) (HT K MZ r) Q) : px_W G D C S M pc ls (.int i :: .ref (tc_p s + 2) :: st) (HT K MZ r) Q := wp_iald d (ht_lo (hc_a1 K r.1 s hs)) hi k
theorem lK_2 {i : Int32} (hs : s < 4) (d : decode M.2.1 pc = .ok (.iaload, 1)) (hi : vp_in i 6) (k : px_W G D C S M (pc + 1) ls (.int (K.2.1 s 2 i.toNatClampNeg) :: st) (HT K MZ r) Q) : px_W G D C S M pc ls (.int i :: .ref (tc_p s + 3) :: st) (HT K MZ r) Q := wp_iald d (ht_lo (hc_a2 K r.1 s hs)) hi k
theorem lK_3 {i : Int32} (hs : s < 4) (d : decode M.2.1 pc = .ok (.iaload, 1)) (hi : vp_in i 24) (k : px_W G D C S M (pc + 1) ls (.int (K.2.1 s 3 i.toNatClampNeg) :: st) (HT K MZ r) Q) : px_W G D C S M pc ls (.int i :: .ref (tc_p s + 4) :: st) (HT K MZ r) Q := wp_iald d (ht_lo (hc_a3 K r.1 s hs)) hi k
theorem lK_4 {i : Int32} (hs : s < 4) (d : decode M.2.1 pc = .ok (.iaload, 1)) (hi : vp_in i 6) (k : px_W G D C S M (pc + 1) ls (.int (K.2.1 s 4 i.toNatClampNeg) :: st) (HT K MZ r) Q) : px_W G D C S M pc ls (.int i :: .ref (tc_p s + 5) :: st) (HT K MZ r) Q := wp_iald d (ht_lo (hc_a4 K r.1 s hs)) hi k
theorem lK_5 {i : Int32} (hs : s < 4) (d : decode M.2.1 pc = .ok (.iaload, 1)) (hi : vp_in i 6) (k : px_W G D C S M (pc + 1) ls (.int (K.2.1 s 5 i.toNatClampNeg) :: st) (HT K MZ r) Q) : px_W G D C S M pc ls (.int i :: .ref (tc_p s + 6) :: st) (HT K MZ r) Q := wp_iald d (ht_lo (hc_a5 K r.1 s hs)) hi k
theorem lK_6 {i : Int32} (hs : s < 4) (d : decode M.2.1 pc = .ok (.iaload, 1)) (hi : vp_in i 8) (k : px_W G D C S M (pc + 1) ls (.int (K.2.1 s 6 i.toNatClampNeg) :: st) (HT K MZ r) Q) : px_W G D C S M pc ls (.int i :: .ref (tc_p s + 7) :: st) (HT K MZ r) Q := wp_iald d (ht_lo (hc_a6 K r.1 s hs)) hi k
end TDC0
theorem i_succ {a b x : Int32} (h : b.toInt + 1 = a.toInt) : a ≤ x ↔ ¬ x ≤ b := by
  rw [Int32.le_iff_toInt_le, Int32.le_iff_toInt_le]
  omega
theorem i_lt {a b x : Int32} (h : b.toInt + 1 = a.toInt) : x < a ↔ x ≤ b := by
  rw [Int32.le_iff_toInt_le, Int32.lt_iff_toInt_lt]
  omega
theorem i_rng {m : Int32} {n : Nat} (hn : n < 2 ^ 31) : (0 ≤ m ∧ m < nI n) ↔ ∃ q, q < n ∧ m = nI q := by
  constructor
  · intro h
    obtain ⟨q, hq, e⟩ := nI_of (Int32.not_lt.mpr h.1)
    exact ⟨q, by rw [e] at h; exact (nI_ltI hq hn).mp h.2, e⟩
  · rintro ⟨q, hq, rfl⟩
    exact ⟨nI_pos' (by omega), nI_lt hq hn⟩
/-- clumsiest -/
def sp_clu (f : Nat → Int32) : Nat → Nat → Int32 → Int32 → Int32
  | 0, _, w, _ => w
  | q + 1, m, w, most => if most < f m then sp_clu f q (m + 1) (nI m) (f m) else sp_clu f q (m + 1) w most
/-- the least beat below a limit -/
def sp_lsb (g : Int32 → Int32) (n : Int32) : Nat → Nat → Int32
  | 0, b => nI b
  | q + 1, b => if g (nI b) = n then nI b else sp_lsb g n q (b + 1)
section TDC
variable {G : px_G} {D : Nat} {K : tc_K} {MZ h : px_H} {r : tc_r} {Q : Option Value → px_H → Prop} {mn : tc_mn} {sc : tc_sc}
set_option maxRecDepth 4000 in
theorem l_Tr_clumsiest_7 : ∀ (d i : Nat) (wo mo : Int32), i + d = 6 → Q (some (.int (sp_clu (K.2.1 4 2) d i wo mo))) (HT K MZ r) → px_W G D 0 0 m_Tr_clumsiest 7 [some (.ref 23), some (.int wo), some (.int mo), some (.int (nI i))] [] (HT K MZ r) Q := by
  intro d
  induction d with
  | zero =>
    intro i wo mo hid k
    refine wp_iload_n d_Tr_clumsiest_7 rfl rfl ?_
    refine wp_bipush (v := (nI 6)) d_Tr_clumsiest_8 (by decide) ?_
    refine wp_icmp_ge (t := 38) d_Tr_clumsiest_10 (by decide) (fun c_10 => ?_) (fun c_10 => absurd (nI_le (by omega) (by omega)) c_10)
    refine wp_iload_n d_Tr_clumsiest_38 rfl rfl ?_
    refine wp_ireturn d_Tr_clumsiest_39 rfl rfl ?_
    exact k
  | succ d ih =>
    intro i wo mo hid k
    refine wp_iload_n d_Tr_clumsiest_7 rfl rfl ?_
    refine wp_bipush (v := (nI 6)) d_Tr_clumsiest_8 (by decide) ?_
    refine wp_icmp_ge (t := 38) d_Tr_clumsiest_10 (by decide) (fun c_10 => absurd c_10 (nI_ge (show i < 6 by omega) (by decide))) (fun c_10 => ?_)
    refine wp_aload_n d_Tr_clumsiest_13 rfl rfl rfl ?_
    refine gR_2 gf_Tr_9_2 d_Tr_clumsiest_14 ?_
    refine wp_iload_n d_Tr_clumsiest_17 rfl rfl ?_
    refine lA_40 d_Tr_clumsiest_18 (vp_in_nI (by omega) (by decide)) ?_
    rw [nI_clamp (by omega)]
    refine wp_iload_n d_Tr_clumsiest_19 rfl rfl ?_
    refine wp_icmp_le (t := 32) d_Tr_clumsiest_20 (by decide) (fun c_20 => ?_) (fun c_20 => ?_)
    · skip
      refine wp_iinc (v := _ + 1) (ls' := [_, _, _, _]) d_Tr_clumsiest_32 (by decide) rfl rfl rfl ?_
      refine wp_goto (t := 7) d_Tr_clumsiest_35 (by decide) ?_
      rw [show nI i + 1 = nI (i + 1) from nI_1 i]
      first
        | (rw [sp_clu, if_pos (Int32.not_le.mp c_20)] at k; exact ih (i + 1) _ _ (by omega) k)
        | (rw [sp_clu, if_neg (Int32.not_lt.mpr c_20)] at k; exact ih (i + 1) _ _ (by omega) k)
    · skip
      refine wp_iload_n d_Tr_clumsiest_23 rfl rfl ?_
      refine wp_istore_n (ls' := [_, _, _, _]) d_Tr_clumsiest_24 rfl (by decide) rfl ?_
      refine wp_aload_n d_Tr_clumsiest_25 rfl rfl rfl ?_
      refine gR_2 gf_Tr_9_2 d_Tr_clumsiest_26 ?_
      refine wp_iload_n d_Tr_clumsiest_29 rfl rfl ?_
      refine lA_40 d_Tr_clumsiest_30 (vp_in_nI (by omega) (by decide)) ?_
      rw [nI_clamp (by omega)]
      refine wp_istore_n (ls' := [_, _, _, _]) d_Tr_clumsiest_31 rfl (by decide) rfl ?_
      refine wp_iinc (v := _ + 1) (ls' := [_, _, _, _]) d_Tr_clumsiest_32 (by decide) rfl rfl rfl ?_
      refine wp_goto (t := 7) d_Tr_clumsiest_35 (by decide) ?_
      rw [show nI i + 1 = nI (i + 1) from nI_1 i]
      first
        | (rw [sp_clu, if_pos (Int32.not_le.mp c_20)] at k; exact ih (i + 1) _ _ (by omega) k)
        | (rw [sp_clu, if_neg (Int32.not_lt.mpr c_20)] at k; exact ih (i + 1) _ _ (by omega) k)
set_option maxRecDepth 4000 in
theorem c_Tr_clumsiest  (hD : 0 ≤ D) (k : Q (some (.int (sp_clu (K.2.1 4 2) 6 0 (-5) 0))) (HT K MZ r)) : px_W G D 0 0 m_Tr_clumsiest 0 (px_ent 4 [.ref 23]) [] (HT K MZ r) Q := by
  show px_W _ _ _ _ _ _ [some (.ref 23), none, none, none] [] _ _
  refine wp_bipush (v := (-5)) d_Tr_clumsiest_0 (by decide) ?_
  refine wp_istore_n (ls' := [_, _, _, _]) d_Tr_clumsiest_2 rfl (by decide) rfl ?_
  refine wp_iconst (v := 0) d_Tr_clumsiest_3 rfl ?_
  refine wp_istore_n (ls' := [_, _, _, _]) d_Tr_clumsiest_4 rfl (by decide) rfl ?_
  refine wp_iconst (v := (nI 0)) d_Tr_clumsiest_5 rfl ?_
  refine wp_istore_n (ls' := [_, _, _, _]) d_Tr_clumsiest_6 rfl (by decide) rfl ?_
  exact l_Tr_clumsiest_7 6 0 _ _ (Nat.zero_add 6) k
theorem st_ok.tk {S : List Nat} {K1 : tc_K} {s n B : Nat} {kd vd : Nat → Int32} {ln : Nat → Nat} {cl : List sp_Cl} (h : st_ok mn sc K s n B kd vd ln cl) (hk : tk S K K1) (hs : s ∉ S) : st_ok mn sc K1 s n B kd vd ln cl := by
  obtain ⟨t1, t2, t3, t4⟩ := hk.1 s hs
  unfold st_ok
  rw [t1, t2, t3, t4]
  exact h
set_option maxRecDepth 4000 in
theorem l_Tr_leastSafeBelow_2 {n B : Nat} {kd vd : Nat → Int32} {ln : Nat → Nat} {cl : List sp_Cl} {nn lim : Nat} (hD : 9 ≤ D) (hst : st_ok mn sc K 2 n B kd vd ln cl) (hB : B ≤ 20000) (hn30 : nn ≤ 30) (hl : lim ≤ 1000) : ∀ (d i : Nat) (K1 : tc_K) (r1 : tc_r), i + d = lim → tk [3] K K1 → tc_R mn sc MZ r1 → (∀ K2 (r2 : tc_r), tk [3] K K2 → tc_R mn sc MZ r2 → Q (some (.int (sp_lsb (fun z => sp_many (kd, vd, K.2.1 2 3, ln, n, cl) (K.1 2 9) (K.2.1 2 1) (K.2.1 2 2) nn z 0 0) (nI nn) d i))) (HT K2 MZ r2)) → px_W G D 0 0 m_Tr_leastSafeBelow 2 [some (.ref 23), some (.int (nI nn)), some (.int (nI lim)), some (.int (nI i))] [] (HT K1 MZ r1) Q := by
  intro d
  induction d with
  | zero =>
    intro i K1 r1 hid hk1 hR1 k
    refine wp_iload_n d_Tr_leastSafeBelow_2 rfl rfl ?_
    refine wp_iload_n d_Tr_leastSafeBelow_3 rfl rfl ?_
    refine wp_icmp_ge (t := 26) d_Tr_leastSafeBelow_4 (by decide) (fun c_4 => ?_) (fun c_4 => absurd (nI_le (by omega) (by omega)) c_4)
    refine wp_iload_n d_Tr_leastSafeBelow_26 rfl rfl ?_
    refine wp_ireturn d_Tr_leastSafeBelow_27 rfl rfl ?_
    rw [show lim = i from by omega]
    exact k K1 r1 hk1 hR1
  | succ d ih =>
    intro i K1 r1 hid hk1 hR1 k
    obtain ⟨t1, t2, t3, t4⟩ := hk1.1 2 (by decide)
    refine wp_iload_n d_Tr_leastSafeBelow_2 rfl rfl ?_
    refine wp_iload_n d_Tr_leastSafeBelow_3 rfl rfl ?_
    refine wp_icmp_ge (t := 26) d_Tr_leastSafeBelow_4 (by decide) (fun c_4 => absurd c_4 (nI_ge (by omega) (by omega))) (fun c_4 => ?_)
    refine wp_aload_n d_Tr_leastSafeBelow_7 rfl rfl rfl ?_
    refine wp_iload_n d_Tr_leastSafeBelow_8 rfl rfl ?_
    refine wp_iload_n d_Tr_leastSafeBelow_9 rfl rfl ?_
    refine wp_iconst (v := (nI 0)) d_Tr_leastSafeBelow_10 rfl ?_
    refine wp_iconst (v := 0) d_Tr_leastSafeBelow_11 rfl ?_
    refine wp_callV (r := (R_2, T_2, 6)) (M' := m_Tr_noneFalls) (as := [_, _, _, _]) (D' := D - 1) (C1 := 0) (C2 := 0) (S1 := 0) (S2 := 0) d_Tr_leastSafeBelow_12 rfl w_737 w_738 w_739 tt_23 k_Tr_noneFalls (Nat.le_of_ble_eq_true rfl) rfl (Nat.le_of_ble_eq_true rfl) (by omega) rfl rfl ?_
    refine c_Tr_noneFalls (by omega) hR1 (hst.tk hk1 (by decide)) hB hn30 (by decide) (fun h K2 r2 hk2 hR2 => ?_) (fun h K2 r2 hk2 hR2 => ?_)
    · skip
      rw [t1, t2] at h
      refine wp_if_eq (t := 20) d_Tr_leastSafeBelow_15 (by decide) (fun c_15 => (absurd c_15 (by decide))) (fun c_15 => ?_)
      refine wp_iload_n d_Tr_leastSafeBelow_18 rfl rfl ?_
      refine wp_ireturn d_Tr_leastSafeBelow_19 rfl rfl ?_
      rw [sp_lsb, if_pos h] at k
      exact k K2 r2 (hk1.tr hk2) hR2
    · skip
      rw [t1, t2] at h
      refine wp_if_eq (t := 20) d_Tr_leastSafeBelow_15 (by decide) (fun c_15 => ?_) (fun c_15 => (absurd c_15 (by decide)))
      refine wp_iinc (v := _ + 1) (ls' := [_, _, _, _]) d_Tr_leastSafeBelow_20 (by decide) rfl rfl rfl ?_
      refine wp_goto (t := 2) d_Tr_leastSafeBelow_23 (by decide) ?_
      rw [show nI i + 1 = nI (i + 1) from nI_1 i]
      rw [sp_lsb, if_neg h] at k
      exact ih (i + 1) K2 r2 (by omega) (hk1.tr hk2) hR2 k
set_option maxRecDepth 4000 in
theorem c_Tr_leastSafeBelow {n B : Nat} {kd vd : Nat → Int32} {ln : Nat → Nat} {cl : List sp_Cl} {nn lim : Nat} (hD : 9 ≤ D) (hR : tc_R mn sc MZ r) (hst : st_ok mn sc K 2 n B kd vd ln cl) (hB : B ≤ 20000) (hn30 : nn ≤ 30) (hl : lim ≤ 1000) (hl1 : 1 ≤ lim) (k : ∀ K2 (r2 : tc_r), tk [3] K K2 → tc_R mn sc MZ r2 → Q (some (.int (sp_lsb (fun z => sp_many (kd, vd, K.2.1 2 3, ln, n, cl) (K.1 2 9) (K.2.1 2 1) (K.2.1 2 2) nn z 0 0) (nI nn) (lim - 1) 1))) (HT K2 MZ r2)) : px_W G D 0 0 m_Tr_leastSafeBelow 0 (px_ent 4 [.ref 23, .int (nI nn), .int (nI lim)]) [] (HT K MZ r) Q := by
  show px_W _ _ _ _ _ _ [some (.ref 23), some (.int (nI nn)), some (.int (nI lim)), none] [] _ _
  refine wp_iconst (v := (nI 1)) d_Tr_leastSafeBelow_0 rfl ?_
  refine wp_istore_n (ls' := [_, _, _, _]) d_Tr_leastSafeBelow_1 rfl (by decide) rfl ?_
  exact l_Tr_leastSafeBelow_2 hD hst hB hn30 hl (lim - 1) 1 K r (by omega) tk.rf hR k
set_option maxRecDepth 4000 in
theorem c_TC_isNoMan {m : Int32} {n : Nat} (hD : 0 ≤ D) (h7 : K.1 0 7 = nI n) (kt : ¬ (0 ≤ m ∧ m < nI n) → Q (some (.int 1)) (HT K MZ r)) (kf : (0 ≤ m ∧ m < nI n) → Q (some (.int 0)) (HT K MZ r)) : px_W G D 0 0 m_TC_isNoMan 0 (px_ent 2 [.ref 0, .int m]) [] (HT K MZ r) Q := by
  show px_W _ _ _ _ _ _ [some (.ref 0), some (.int m)] [] _ _
  refine wp_iload_n d_TC_isNoMan_0 rfl rfl ?_
  refine wp_if_lt (t := 15) d_TC_isNoMan_1 (by decide) (fun c_1 => ?_) (fun c_1 => ?_)
  · skip
    refine wp_iconst (v := 1) d_TC_isNoMan_15 rfl ?_
    refine wp_goto (t := 20) d_TC_isNoMan_16 (by decide) ?_
    refine wp_ireturn d_TC_isNoMan_20 rfl rfl ?_
    first
      | exact kt (fun z => absurd z.1 (Int32.not_le.mpr c_1))
      | exact kt (fun z => c_12 z.2)
  · skip
    refine wp_iload_n d_TC_isNoMan_4 rfl rfl ?_
    refine wp_aload_n d_TC_isNoMan_5 rfl rfl rfl ?_
    refine gC_0 gf_TC_24_0 d_TC_isNoMan_6 ?_
    refine gK_7 (s := 0) (by decide) gf_TC_67_1 d_TC_isNoMan_9 ?_
    rw [h7]
    refine wp_icmp_lt (t := 19) d_TC_isNoMan_12 (by decide) (fun c_12 => ?_) (fun c_12 => ?_)
    · skip
      refine wp_iconst (v := 0) d_TC_isNoMan_19 rfl ?_
      refine wp_ireturn d_TC_isNoMan_20 rfl rfl ?_
      exact kf ⟨Int32.not_lt.mp c_1, c_12⟩
    · skip
      refine wp_iconst (v := 1) d_TC_isNoMan_15 rfl ?_
      refine wp_goto (t := 20) d_TC_isNoMan_16 (by decide) ?_
      refine wp_ireturn d_TC_isNoMan_20 rfl rfl ?_
      first
        | exact kt (fun z => absurd z.1 (Int32.not_le.mpr c_1))
        | exact kt (fun z => c_12 z.2)
set_option maxRecDepth 4000 in
theorem c_TC_isNoBeat {x : Int32} (hD : 0 ≤ D) (kt : ¬ (1 ≤ x ∧ x ≤ 99) → Q (some (.int 1)) h) (kf : (1 ≤ x ∧ x ≤ 99) → Q (some (.int 0)) h) : px_W G D 0 0 m_TC_isNoBeat 0 (px_ent 1 [.int x]) [] h Q := by
  show px_W _ _ _ _ _ _ [some (.int x)] [] _ _
  refine wp_iload_n d_TC_isNoBeat_0 rfl rfl ?_
  refine wp_iconst (v := 1) d_TC_isNoBeat_1 rfl ?_
  refine wp_icmp_lt (t := 11) d_TC_isNoBeat_2 (by decide) (fun c_2 => ?_) (fun c_2 => ?_)
  · skip
    refine wp_iconst (v := 1) d_TC_isNoBeat_11 rfl ?_
    refine wp_goto (t := 16) d_TC_isNoBeat_12 (by decide) ?_
    refine wp_ireturn d_TC_isNoBeat_16 rfl rfl ?_
    first
      | exact kt (fun z => absurd z.1 (Int32.not_le.mpr c_2))
      | exact kt (fun z => c_8 z.2)
  · skip
    refine wp_iload_n d_TC_isNoBeat_5 rfl rfl ?_
    refine wp_bipush (v := 99) d_TC_isNoBeat_6 (by decide) ?_
    refine wp_icmp_le (t := 15) d_TC_isNoBeat_8 (by decide) (fun c_8 => ?_) (fun c_8 => ?_)
    · skip
      refine wp_iconst (v := 0) d_TC_isNoBeat_15 rfl ?_
      refine wp_ireturn d_TC_isNoBeat_16 rfl rfl ?_
      exact kf ⟨Int32.not_lt.mp c_2, c_8⟩
    · skip
      refine wp_iconst (v := 1) d_TC_isNoBeat_11 rfl ?_
      refine wp_goto (t := 16) d_TC_isNoBeat_12 (by decide) ?_
      refine wp_ireturn d_TC_isNoBeat_16 rfl rfl ?_
      first
        | exact kt (fun z => absurd z.1 (Int32.not_le.mpr c_2))
        | exact kt (fun z => c_8 z.2)
set_option maxRecDepth 4000 in
theorem c_TC_isNoCount {x : Int32} (hD : 0 ≤ D) (kt : ¬ (1 ≤ x ∧ x ≤ 30) → Q (some (.int 1)) h) (kf : (1 ≤ x ∧ x ≤ 30) → Q (some (.int 0)) h) : px_W G D 0 0 m_TC_isNoCount 0 (px_ent 1 [.int x]) [] h Q := by
  show px_W _ _ _ _ _ _ [some (.int x)] [] _ _
  refine wp_iload_n d_TC_isNoCount_0 rfl rfl ?_
  refine wp_iconst (v := 1) d_TC_isNoCount_1 rfl ?_
  refine wp_icmp_lt (t := 11) d_TC_isNoCount_2 (by decide) (fun c_2 => ?_) (fun c_2 => ?_)
  · skip
    refine wp_iconst (v := 1) d_TC_isNoCount_11 rfl ?_
    refine wp_goto (t := 16) d_TC_isNoCount_12 (by decide) ?_
    refine wp_ireturn d_TC_isNoCount_16 rfl rfl ?_
    first
      | exact kt (fun z => absurd z.1 (Int32.not_le.mpr c_2))
      | exact kt (fun z => c_8 z.2)
  · skip
    refine wp_iload_n d_TC_isNoCount_5 rfl rfl ?_
    refine wp_bipush (v := 30) d_TC_isNoCount_6 (by decide) ?_
    refine wp_icmp_le (t := 15) d_TC_isNoCount_8 (by decide) (fun c_8 => ?_) (fun c_8 => ?_)
    · skip
      refine wp_iconst (v := 0) d_TC_isNoCount_15 rfl ?_
      refine wp_ireturn d_TC_isNoCount_16 rfl rfl ?_
      exact kf ⟨Int32.not_lt.mp c_2, c_8⟩
    · skip
      refine wp_iconst (v := 1) d_TC_isNoCount_11 rfl ?_
      refine wp_goto (t := 16) d_TC_isNoCount_12 (by decide) ?_
      refine wp_ireturn d_TC_isNoCount_16 rfl rfl ?_
      first
        | exact kt (fun z => absurd z.1 (Int32.not_le.mpr c_2))
        | exact kt (fun z => c_8 z.2)
set_option maxRecDepth 4000 in
theorem c_TC_isNoPart {x : Int32} (hD : 0 ≤ D) (kt : ¬ (0 ≤ x ∧ x ≤ 1) → Q (some (.int 1)) h) (kf : (0 ≤ x ∧ x ≤ 1) → Q (some (.int 0)) h) : px_W G D 0 0 m_TC_isNoPart 0 (px_ent 1 [.int x]) [] h Q := by
  show px_W _ _ _ _ _ _ [some (.int x)] [] _ _
  refine wp_iload_n d_TC_isNoPart_0 rfl rfl ?_
  refine wp_if_lt (t := 9) d_TC_isNoPart_1 (by decide) (fun c_1 => ?_) (fun c_1 => ?_)
  · skip
    refine wp_iconst (v := 1) d_TC_isNoPart_9 rfl ?_
    refine wp_goto (t := 14) d_TC_isNoPart_10 (by decide) ?_
    refine wp_ireturn d_TC_isNoPart_14 rfl rfl ?_
    first
      | exact kt (fun z => absurd z.1 (Int32.not_le.mpr c_1))
      | exact kt (fun z => c_6 z.2)
  · skip
    refine wp_iload_n d_TC_isNoPart_4 rfl rfl ?_
    refine wp_iconst (v := 1) d_TC_isNoPart_5 rfl ?_
    refine wp_icmp_le (t := 13) d_TC_isNoPart_6 (by decide) (fun c_6 => ?_) (fun c_6 => ?_)
    · skip
      refine wp_iconst (v := 0) d_TC_isNoPart_13 rfl ?_
      refine wp_ireturn d_TC_isNoPart_14 rfl rfl ?_
      exact kf ⟨Int32.not_lt.mp c_1, c_6⟩
    · skip
      refine wp_iconst (v := 1) d_TC_isNoPart_9 rfl ?_
      refine wp_goto (t := 14) d_TC_isNoPart_10 (by decide) ?_
      refine wp_ireturn d_TC_isNoPart_14 rfl rfl ?_
      first
        | exact kt (fun z => absurd z.1 (Int32.not_le.mpr c_1))
        | exact kt (fun z => c_6 z.2)
set_option maxRecDepth 4000 in
theorem c_TC_isNoTape {x : Int32} (hD : 0 ≤ D) (kt : ¬ (0 ≤ x ∧ x ≤ 5) → Q (some (.int 1)) h) (kf : (0 ≤ x ∧ x ≤ 5) → Q (some (.int 0)) h) : px_W G D 0 0 m_TC_isNoTape 0 (px_ent 1 [.int x]) [] h Q := by
  show px_W _ _ _ _ _ _ [some (.int x)] [] _ _
  refine wp_iload_n d_TC_isNoTape_0 rfl rfl ?_
  refine wp_if_lt (t := 10) d_TC_isNoTape_1 (by decide) (fun c_1 => ?_) (fun c_1 => ?_)
  · skip
    refine wp_iconst (v := 1) d_TC_isNoTape_10 rfl ?_
    refine wp_goto (t := 15) d_TC_isNoTape_11 (by decide) ?_
    refine wp_ireturn d_TC_isNoTape_15 rfl rfl ?_
    first
      | exact kt (fun z => absurd z.1 (Int32.not_le.mpr c_1))
      | exact kt (fun z => c_7 ((i_lt (a := 6) (b := 5) rfl).mpr z.2))
  · skip
    refine wp_iload_n d_TC_isNoTape_4 rfl rfl ?_
    refine wp_bipush (v := 6) d_TC_isNoTape_5 (by decide) ?_
    refine wp_icmp_lt (t := 14) d_TC_isNoTape_7 (by decide) (fun c_7 => ?_) (fun c_7 => ?_)
    · skip
      refine wp_iconst (v := 0) d_TC_isNoTape_14 rfl ?_
      refine wp_ireturn d_TC_isNoTape_15 rfl rfl ?_
      exact kf ⟨Int32.not_lt.mp c_1, (i_lt (a := 6) (b := 5) rfl).mp c_7⟩
    · skip
      refine wp_iconst (v := 1) d_TC_isNoTape_10 rfl ?_
      refine wp_goto (t := 15) d_TC_isNoTape_11 (by decide) ?_
      refine wp_ireturn d_TC_isNoTape_15 rfl rfl ?_
      first
        | exact kt (fun z => absurd z.1 (Int32.not_le.mpr c_1))
        | exact kt (fun z => c_7 ((i_lt (a := 6) (b := 5) rfl).mpr z.2))
set_option maxRecDepth 4000 in
theorem l_TC_partOfFraction_5 {p q : Nat} {x : Int32} (hp : p < 2 ^ 31) (hq : q < 2 ^ 30) (hq0 : 0 < q) (k : Q (some (.long (sp_low p q x))) h) : ∀ (d d0 dv : Nat), d0 + d = q + 1 → 2 ≤ d0 → 1 ≤ dv → dv ∣ p → dv ∣ q → (∀ e, 1 ≤ e → e < d0 → e ∣ p → e ∣ q → e ≤ dv) → px_W G D 0 0 m_TC_partOfFraction 5 [some (.int (nI p)), some (.int (nI q)), some (.int x), some (.int (nI dv)), some (.int (nI d0))] [] h Q := by
  intro d
  induction d with
  | zero =>
    intro d0 dv hid h2 h1 hdp hdq hmx
    have hdv2 : dv ≤ q := Nat.le_of_dvd hq0 hdq
    have hq : q < 2 ^ 31 := by omega
    refine wp_iload d_TC_partOfFraction_5 rfl ?_
    refine wp_iload_n d_TC_partOfFraction_7 rfl rfl ?_
    refine wp_icmp_gt (t := 34) d_TC_partOfFraction_8 (by decide) (fun c_8 => ?_) (fun c_8 => absurd (nI_lt (by omega) (by omega)) c_8)
    refine wp_iload_n d_TC_partOfFraction_34 rfl rfl ?_
    refine wp_if_ne (t := 42) d_TC_partOfFraction_35 (by decide) (fun c_35 => ?_) (fun c_35 => ?_)
    · skip
      refine wp_iload_n d_TC_partOfFraction_42 rfl rfl ?_
      refine wp_iload_n d_TC_partOfFraction_43 rfl rfl ?_
      refine wp_idiv d_TC_partOfFraction_44 (nI_ne0 (by omega) (by omega)) ?_
      refine wp_i2l d_TC_partOfFraction_45 ?_
      refine wp_lreturn d_TC_partOfFraction_46 rfl ?_
      have hg : dv = Nat.gcd p q := Nat.le_antisymm (Nat.le_of_dvd (Nat.gcd_pos_of_pos_right p (by omega)) (Nat.dvd_gcd hdp hdq)) (hmx _ (Nat.gcd_pos_of_pos_right p (by omega)) (by have := Nat.le_of_dvd (show 0 < q by omega) (Nat.gcd_dvd_right p q); omega) (Nat.gcd_dvd_left p q) (Nat.gcd_dvd_right p q))
      rw [hg]
      unfold sp_low at k
      first
        | (rw [if_pos c_35] at k; rw [mo_div _ hp (by rw [← hg]; omega) (by rw [← hg]; omega)]; exact k)
        | (rw [if_neg c_35] at k; rw [mo_div _ hq (by rw [← hg]; omega) (by rw [← hg]; omega)]; exact k)
    · skip
      refine wp_iload_n d_TC_partOfFraction_38 rfl rfl ?_
      refine wp_goto (t := 43) d_TC_partOfFraction_39 (by decide) ?_
      refine wp_iload_n d_TC_partOfFraction_43 rfl rfl ?_
      refine wp_idiv d_TC_partOfFraction_44 (nI_ne0 (by omega) (by omega)) ?_
      refine wp_i2l d_TC_partOfFraction_45 ?_
      refine wp_lreturn d_TC_partOfFraction_46 rfl ?_
      have hg : dv = Nat.gcd p q := Nat.le_antisymm (Nat.le_of_dvd (Nat.gcd_pos_of_pos_right p (by omega)) (Nat.dvd_gcd hdp hdq)) (hmx _ (Nat.gcd_pos_of_pos_right p (by omega)) (by have := Nat.le_of_dvd (show 0 < q by omega) (Nat.gcd_dvd_right p q); omega) (Nat.gcd_dvd_left p q) (Nat.gcd_dvd_right p q))
      rw [hg]
      unfold sp_low at k
      first
        | (rw [if_pos c_35] at k; rw [mo_div _ hp (by rw [← hg]; omega) (by rw [← hg]; omega)]; exact k)
        | (rw [if_neg c_35] at k; rw [mo_div _ hq (by rw [← hg]; omega) (by rw [← hg]; omega)]; exact k)
  | succ d ih =>
    intro d0 dv hid h2 h1 hdp hdq hmx
    have hq : q < 2 ^ 31 := by omega
    have hrem : ∀ a : Nat, a < 2 ^ 31 → (nI a - nI a / nI d0 * nI d0 = 0 ↔ d0 ∣ a) := fun a ha => by
      rw [pk_rem ha (by omega) (by omega)]
      have hml := Nat.mod_lt a (show 0 < d0 by omega)
      exact ⟨fun z => Nat.dvd_of_mod_eq_zero ((nI_eq (b := 0) (by omega) (by decide)).mp z), fun z => congrArg nI (Nat.mod_eq_zero_of_dvd z)⟩
    refine wp_iload d_TC_partOfFraction_5 rfl ?_
    refine wp_iload_n d_TC_partOfFraction_7 rfl rfl ?_
    refine wp_icmp_gt (t := 34) d_TC_partOfFraction_8 (by decide) (fun c_8 => absurd c_8 (Int32.not_lt.mpr (nI_le (by omega) (by omega)))) (fun c_8 => ?_)
    refine wp_iload_n d_TC_partOfFraction_11 rfl rfl ?_
    refine wp_iload d_TC_partOfFraction_12 rfl ?_
    refine wp_irem d_TC_partOfFraction_14 (nI_ne0 (by omega) (by omega)) ?_
    refine wp_if_ne (t := 28) d_TC_partOfFraction_15 (by decide) (fun c_15 => ?_) (fun c_15 => ?_)
    · skip
      refine wp_iinc (v := _ + 1) (ls' := [_, _, _, _, _]) d_TC_partOfFraction_28 (by decide) rfl rfl rfl ?_
      refine wp_goto (t := 5) d_TC_partOfFraction_31 (by decide) ?_
      rw [show nI d0 + 1 = nI (d0 + 1) from nI_1 d0]
      first
        | (have g1 := (hrem p hp).mp c_15
           have g2 := (hrem q hq).mp c_22
           exact ih (d0 + 1) d0 (by omega) (by omega) (by omega) g1 g2 (fun e e1 e2 e3 e4 => by omega))
        | (refine ih (d0 + 1) dv (by omega) (by omega) h1 hdp hdq (fun e e1 e2 e3 e4 => ?_)
           by_cases he : e = d0
           · subst he
             first
               | exact absurd ((hrem p hp).mpr e3) c_15
               | exact absurd ((hrem q hq).mpr e4) c_22
           · exact hmx e e1 (by omega) e3 e4)
    · skip
      refine wp_iload_n d_TC_partOfFraction_18 rfl rfl ?_
      refine wp_iload d_TC_partOfFraction_19 rfl ?_
      refine wp_irem d_TC_partOfFraction_21 (nI_ne0 (by omega) (by omega)) ?_
      refine wp_if_ne (t := 28) d_TC_partOfFraction_22 (by decide) (fun c_22 => ?_) (fun c_22 => ?_)
      · skip
        refine wp_iinc (v := _ + 1) (ls' := [_, _, _, _, _]) d_TC_partOfFraction_28 (by decide) rfl rfl rfl ?_
        refine wp_goto (t := 5) d_TC_partOfFraction_31 (by decide) ?_
        rw [show nI d0 + 1 = nI (d0 + 1) from nI_1 d0]
        first
          | (have g1 := (hrem p hp).mp c_15
             have g2 := (hrem q hq).mp c_22
             exact ih (d0 + 1) d0 (by omega) (by omega) (by omega) g1 g2 (fun e e1 e2 e3 e4 => by omega))
          | (refine ih (d0 + 1) dv (by omega) (by omega) h1 hdp hdq (fun e e1 e2 e3 e4 => ?_)
             by_cases he : e = d0
             · subst he
               first
                 | exact absurd ((hrem p hp).mpr e3) c_15
                 | exact absurd ((hrem q hq).mpr e4) c_22
             · exact hmx e e1 (by omega) e3 e4)
      · skip
        refine wp_iload d_TC_partOfFraction_25 rfl ?_
        refine wp_istore_n (ls' := [_, _, _, _, _]) d_TC_partOfFraction_27 rfl (by decide) rfl ?_
        refine wp_iinc (v := _ + 1) (ls' := [_, _, _, _, _]) d_TC_partOfFraction_28 (by decide) rfl rfl rfl ?_
        refine wp_goto (t := 5) d_TC_partOfFraction_31 (by decide) ?_
        rw [show nI d0 + 1 = nI (d0 + 1) from nI_1 d0]
        first
          | (have g1 := (hrem p hp).mp c_15
             have g2 := (hrem q hq).mp c_22
             exact ih (d0 + 1) d0 (by omega) (by omega) (by omega) g1 g2 (fun e e1 e2 e3 e4 => by omega))
          | (refine ih (d0 + 1) dv (by omega) (by omega) h1 hdp hdq (fun e e1 e2 e3 e4 => ?_)
             by_cases he : e = d0
             · subst he
               first
                 | exact absurd ((hrem p hp).mpr e3) c_15
                 | exact absurd ((hrem q hq).mpr e4) c_22
             · exact hmx e e1 (by omega) e3 e4)
set_option maxRecDepth 4000 in
theorem c_TC_partOfFraction {p q : Nat} {x : Int32} (hD : 0 ≤ D) (hp : p < 2 ^ 31) (hq : q < 2 ^ 30) (hq0 : 0 < q) (k : Q (some (.long (sp_low p q x))) h) : px_W G D 0 0 m_TC_partOfFraction 0 (px_ent 5 [.int (nI p), .int (nI q), .int x]) [] h Q := by
  show px_W _ _ _ _ _ _ [some (.int (nI p)), some (.int (nI q)), some (.int x), none, none] [] _ _
  refine wp_iconst (v := (nI 1)) d_TC_partOfFraction_0 rfl ?_
  refine wp_istore_n (ls' := [_, _, _, _, _]) d_TC_partOfFraction_1 rfl (by decide) rfl ?_
  refine wp_iconst (v := (nI 2)) d_TC_partOfFraction_2 rfl ?_
  refine wp_istore (ls' := [_, _, _, _, _]) d_TC_partOfFraction_3 (by decide) rfl ?_
  exact l_TC_partOfFraction_5 hp hq hq0 k (q - 1) 2 1 (by omega) (by decide) (by decide) (Nat.one_dvd p) (Nat.one_dvd q) (fun e e1 e2 _ _ => by omega)
end TDC
