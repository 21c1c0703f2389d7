section TDJ
variable {G : px_G} {D : Nat} {K : tc_K} {MZ : px_H} {r : tc_r} {s : Nat} {j : Nat → Int32} {b : Nat → Nat → Int32} {w : Nat → Option Nat} {v : Nat} {Q : Option Value → px_H → Prop} {mn : tc_mn} {sc : tc_sc}
theorem cpy_0 {α : Type} (f g : Nat → α) (a c : Nat) : va_cpy f g a c 0 = g := by
  funext i
  exact if_neg (by omega)
set_option maxRecDepth 4000 in
theorem c_Si_join {n pm k0 : Nat} {fs : List Value} (hD : 2 ≤ D) (hs : s < 4) (h7 : j 7 = nI n) (h8 : j 8 = nI n) (hn6 : n < 6) (hk : k0 < 7) (hy : (HT (ks K s j b w v) MZ r)[pm]? = some (.inr (5 + k0, fs))) (k : ∀ j2 b2, j2 = upd (upd (j) 7 (nI (n + 1))) 8 (nI (n + 1)) → b2 1 = upd (b 1) n 0 → b2 2 = upd (b 2) n 0 → b2 3 = mo_z4 (b 3) n 4 → b2 4 = upd (b 4) n (nI n) → b2 5 = b 5 → b2 6 = b 6 → Q (some (.int (nI n))) (HT (ks K s j2 b2 (va_up w n (some pm)) v) MZ r)) : px_W G D 0 0 m_Si_join 0 (px_ent 4 [.ref (tc_p s), .ref pm]) [] (HT (ks K s j b w v) MZ r) Q := by
  show px_W _ _ _ _ _ _ [some (.ref (tc_p s)), some (.ref pm), none, none] [] _ _
  refine wp_aload_n d_Si_join_0 rfl rfl rfl ?_
  refine gS_7 hs gf_Si_46_1 d_Si_join_1 ?_
  rw [h7]
  refine wp_istore_n (ls' := [_, _, _, _]) d_Si_join_4 rfl (by decide) rfl ?_
  refine wp_iload_n d_Si_join_5 rfl rfl ?_
  refine wp_bipush (v := 6) d_Si_join_6 (by decide) ?_
  refine wp_icmp_lt (t := 14) d_Si_join_8 (by decide) (fun c_8 => ?_) (fun c_8 => absurd ((nI_ltI (b := 6) (by omega) (by decide)).mpr hn6) c_8)
  refine wp_aload_n d_Si_join_14 rfl rfl rfl ?_
  refine gS_0 hs gf_Si_11_1 d_Si_join_15 ?_
  refine wp_iload_n d_Si_join_18 rfl rfl ?_
  refine wp_aload_n d_Si_join_19 rfl rfl rfl ?_
  refine sS_0 hs d_Si_join_20 (vp_in_nI (by omega) (by decide)) hy (sub_man k0 hk) ?_
  rw [nI_clamp (by omega)]
  refine wp_aload_n d_Si_join_21 rfl rfl rfl ?_
  refine gS_1 hs gf_Si_17_1 d_Si_join_22 ?_
  refine wp_iload_n d_Si_join_25 rfl rfl ?_
  refine wp_iconst (v := 0) d_Si_join_26 rfl ?_
  refine sS_1 hs d_Si_join_27 (vp_in_nI (by omega) (by decide)) ?_
  rw [nI_clamp (by omega)]
  refine wp_aload_n d_Si_join_28 rfl rfl rfl ?_
  refine gS_2 hs gf_Si_21_1 d_Si_join_29 ?_
  refine wp_iload_n d_Si_join_32 rfl rfl ?_
  refine wp_iconst (v := 0) d_Si_join_33 rfl ?_
  refine sS_2 hs d_Si_join_34 (vp_in_nI (by omega) (by decide)) ?_
  rw [nI_clamp (by omega)]
  refine wp_iconst (v := (nI 0)) d_Si_join_35 rfl ?_
  refine wp_istore_n (ls' := [_, _, _, _]) d_Si_join_36 rfl (by decide) rfl ?_
  refine wp_iload_n d_Si_join_37 rfl rfl ?_
  refine wp_iconst (v := 4) d_Si_join_38 rfl ?_
  refine wp_icmp_ge (t := 59) d_Si_join_39 (by decide) (fun c_39 => (absurd c_39 (by decide))) (fun c_39 => ?_)
  refine wp_aload_n d_Si_join_42 rfl rfl rfl ?_
  refine gS_3 hs gf_Si_24_1 d_Si_join_43 ?_
  refine wp_iload_n d_Si_join_46 rfl rfl ?_
  refine wp_iconst (v := 4) d_Si_join_47 rfl ?_
  refine wp_imul d_Si_join_48 ?_
  refine wp_iload_n d_Si_join_49 rfl rfl ?_
  refine wp_iadd d_Si_join_50 ?_
  rw [show nI n * 4 + nI 0 = nI (4 * n + 0) from by rw [show nI n * 4 = nI (n * 4) from pk_mul _ 4, nI_add, Nat.mul_comm]]
  refine wp_iconst (v := 0) d_Si_join_51 rfl ?_
  refine sS_3 hs d_Si_join_52 (vp_in_nI (by omega) (by decide)) ?_
  rw [nI_clamp (by omega)]
  refine wp_iinc (v := (nI 1)) (ls' := [_, _, _, _]) d_Si_join_53 (by decide) rfl rfl rfl ?_
  refine wp_goto (t := 37) d_Si_join_56 (by decide) ?_
  refine wp_iload_n d_Si_join_37 rfl rfl ?_
  refine wp_iconst (v := 4) d_Si_join_38 rfl ?_
  refine wp_icmp_ge (t := 59) d_Si_join_39 (by decide) (fun c_39 => (absurd c_39 (by decide))) (fun c_39 => ?_)
  refine wp_aload_n d_Si_join_42 rfl rfl rfl ?_
  refine gS_3 hs gf_Si_24_1 d_Si_join_43 ?_
  refine wp_iload_n d_Si_join_46 rfl rfl ?_
  refine wp_iconst (v := 4) d_Si_join_47 rfl ?_
  refine wp_imul d_Si_join_48 ?_
  refine wp_iload_n d_Si_join_49 rfl rfl ?_
  refine wp_iadd d_Si_join_50 ?_
  rw [show nI n * 4 + nI 1 = nI (4 * n + 1) from by rw [show nI n * 4 = nI (n * 4) from pk_mul _ 4, nI_add, Nat.mul_comm]]
  refine wp_iconst (v := 0) d_Si_join_51 rfl ?_
  refine sS_3 hs d_Si_join_52 (vp_in_nI (by omega) (by decide)) ?_
  rw [nI_clamp (by omega)]
  refine wp_iinc (v := (nI 2)) (ls' := [_, _, _, _]) d_Si_join_53 (by decide) rfl rfl rfl ?_
  refine wp_goto (t := 37) d_Si_join_56 (by decide) ?_
  refine wp_iload_n d_Si_join_37 rfl rfl ?_
  refine wp_iconst (v := 4) d_Si_join_38 rfl ?_
  refine wp_icmp_ge (t := 59) d_Si_join_39 (by decide) (fun c_39 => (absurd c_39 (by decide))) (fun c_39 => ?_)
  refine wp_aload_n d_Si_join_42 rfl rfl rfl ?_
  refine gS_3 hs gf_Si_24_1 d_Si_join_43 ?_
  refine wp_iload_n d_Si_join_46 rfl rfl ?_
  refine wp_iconst (v := 4) d_Si_join_47 rfl ?_
  refine wp_imul d_Si_join_48 ?_
  refine wp_iload_n d_Si_join_49 rfl rfl ?_
  refine wp_iadd d_Si_join_50 ?_
  rw [show nI n * 4 + nI 2 = nI (4 * n + 2) from by rw [show nI n * 4 = nI (n * 4) from pk_mul _ 4, nI_add, Nat.mul_comm]]
  refine wp_iconst (v := 0) d_Si_join_51 rfl ?_
  refine sS_3 hs d_Si_join_52 (vp_in_nI (by omega) (by decide)) ?_
  rw [nI_clamp (by omega)]
  refine wp_iinc (v := (nI 3)) (ls' := [_, _, _, _]) d_Si_join_53 (by decide) rfl rfl rfl ?_
  refine wp_goto (t := 37) d_Si_join_56 (by decide) ?_
  refine wp_iload_n d_Si_join_37 rfl rfl ?_
  refine wp_iconst (v := 4) d_Si_join_38 rfl ?_
  refine wp_icmp_ge (t := 59) d_Si_join_39 (by decide) (fun c_39 => (absurd c_39 (by decide))) (fun c_39 => ?_)
  refine wp_aload_n d_Si_join_42 rfl rfl rfl ?_
  refine gS_3 hs gf_Si_24_1 d_Si_join_43 ?_
  refine wp_iload_n d_Si_join_46 rfl rfl ?_
  refine wp_iconst (v := 4) d_Si_join_47 rfl ?_
  refine wp_imul d_Si_join_48 ?_
  refine wp_iload_n d_Si_join_49 rfl rfl ?_
  refine wp_iadd d_Si_join_50 ?_
  rw [show nI n * 4 + nI 3 = nI (4 * n + 3) from by rw [show nI n * 4 = nI (n * 4) from pk_mul _ 4, nI_add, Nat.mul_comm]]
  refine wp_iconst (v := 0) d_Si_join_51 rfl ?_
  refine sS_3 hs d_Si_join_52 (vp_in_nI (by omega) (by decide)) ?_
  rw [nI_clamp (by omega)]
  refine wp_iinc (v := (nI 4)) (ls' := [_, _, _, _]) d_Si_join_53 (by decide) rfl rfl rfl ?_
  refine wp_goto (t := 37) d_Si_join_56 (by decide) ?_
  refine wp_iload_n d_Si_join_37 rfl rfl ?_
  refine wp_iconst (v := 4) d_Si_join_38 rfl ?_
  refine wp_icmp_ge (t := 59) d_Si_join_39 (by decide) (fun c_39 => ?_) (fun c_39 => (absurd c_39 (by decide)))
  refine wp_aload_n d_Si_join_59 rfl rfl rfl ?_
  refine wp_dup d_Si_join_60 rfl ?_
  refine gS_7 hs gf_Si_46_1 d_Si_join_61 ?_
  refine wp_iconst (v := 1) d_Si_join_64 rfl ?_
  refine wp_iadd d_Si_join_65 ?_
  rw [h7, nI_1]
  refine pS_7 hs pgf_Si_46_1 d_Si_join_66 ?_
  refine wp_aload_n d_Si_join_69 rfl rfl rfl ?_
  refine wp_aload_n d_Si_join_70 rfl rfl rfl ?_
  refine gS_8 hs gf_Si_50_1 d_Si_join_71 ?_
  rw [show upd j 7 (nI (n + 1)) 8 = nI n from h8]
  refine wp_iload_n d_Si_join_74 rfl rfl ?_
  refine wp_callV (r := (R_1, T_1, 15)) (M' := m_Si_insertAt) (as := [_, _]) (D' := D - 1) (C1 := 0) (C2 := 0) (S1 := 0) (S2 := 0) d_Si_join_75 rfl w_396 w_397 w_398 (ts_0 hs) k_Si_insertAt (Nat.le_of_ble_eq_true rfl) rfl (Nat.le_of_ble_eq_true rfl) (by omega) rfl rfl ?_
  refine c_Si_insertAt (n := n) (p := n) (by omega) hs h8 hn6 (Nat.le_refl _) ?_
  refine wp_iload_n d_Si_join_78 rfl rfl ?_
  refine wp_ireturn d_Si_join_79 rfl rfl ?_
  refine k _ _ rfl rfl rfl rfl ?_ rfl rfl
  show upd (va_cpy (b 4) (b 4) n (n + 1) (n - n)) n (nI n) = _
  rw [Nat.sub_self, cpy_0]
end TDJ
section TDK
variable {G : px_G} {D : Nat} {K K1 : tc_K} {MZ h : px_H} {r r1 : tc_r} {Q : Option Value → px_H → Prop} {mn : tc_mn} {sc : tc_sc} {B : Nat} {S : sp_St} {t0 : Int32} {hl fr : Nat → Int32}
set_option maxRecDepth 4000 in
theorem c_TC_man {n : Nat} {kd vd : Nat → Int32} {ln : Nat → Nat} {cl : List sp_Cl} {x y : Int32} (hD : 6 ≤ D) (hR : tc_R mn sc MZ r) (hst : st_ok mn sc K 0 n B kd vd ln cl) (hB : B ≤ 20000) (h7 : K.1 0 7 = nI n) (kn : ¬ (0 ≤ x ∧ x ≤ 6) → Q (some (.int (-1))) (HT K MZ r)) (kb : (0 ≤ x ∧ x ≤ 6) → ¬ (0 ≤ y ∧ y ≤ 9) → Q (some (.int (-2))) (HT K MZ r)) (kf : (0 ≤ x ∧ x ≤ 6) → (0 ≤ y ∧ y ≤ 9) → n = 6 → Q (some (.int (-4))) (HT K MZ r)) (kk : ∀ k0 v0, k0 < 7 → v0 < 10 → x = nI k0 → y = nI v0 → n < 6 → ∀ j2 b2, j2 = upd (upd (K.1 0) 7 (nI (n + 1))) 8 (nI (n + 1)) → b2 1 = upd (K.2.1 0 1) n 0 → b2 2 = upd (K.2.1 0 2) n 0 → b2 3 = mo_z4 (K.2.1 0 3) n 4 → b2 4 = upd (K.2.1 0 4) n (nI n) → b2 5 = K.2.1 0 5 → b2 6 = K.2.1 0 6 → Q (some (.int (nI n))) (HT (ks K 0 j2 b2 (va_up (K.2.2.1 0) n (some (97 + r.2.length))) (K.2.2.2.1 0)) MZ (r.1, r.2 ++ [.inr (5 + k0, [.int (nI n), .int (nI v0)])]))) : px_W G D 1 2 m_TC_man 0 (px_ent 3 [.ref 0, .int x, .int y]) [] (HT K MZ r) Q := by
  show px_W _ _ _ _ _ _ [some (.ref 0), some (.int x), some (.int y)] [] _ _
  refine wp_iload_n d_TC_man_0 rfl rfl ?_
  refine wp_if_lt (t := 12) d_TC_man_1 (by decide) (fun c_1 => ?_) (fun c_1 => ?_)
  · skip
    refine wp_iconst (v := (-1)) d_TC_man_12 rfl ?_
    refine wp_ireturn d_TC_man_13 rfl rfl ?_
    first
      | exact kn (fun z => absurd z.1 (Int32.not_le.mpr c_1))
      | exact kn (fun z => c_9 ((i_lt (a := 7) (b := 6) rfl).mpr z.2))
  · skip
    refine wp_iload_n d_TC_man_4 rfl rfl ?_
    refine wp_getABOVE d_TC_man_5 w_333 ?_
    refine wp_abovelen d_TC_man_8 ?_
    refine wp_icmp_lt (t := 14) d_TC_man_9 (by decide) (fun c_9 => ?_) (fun c_9 => ?_)
    · skip
      refine wp_iload_n d_TC_man_14 rfl rfl ?_
      refine wp_if_lt (t := 24) d_TC_man_15 (by decide) (fun c_15 => ?_) (fun c_15 => ?_)
      · skip
        refine wp_bipush (v := (-2)) d_TC_man_24 (by decide) ?_
        refine wp_ireturn d_TC_man_26 rfl rfl ?_
        have hx : 0 ≤ x ∧ x ≤ 6 := ⟨Int32.not_lt.mp c_1, (i_lt (a := 7) (b := 6) rfl).mp c_9⟩
        first
          | exact kb hx (fun z => absurd z.1 (Int32.not_le.mpr c_15))
          | exact kb hx (fun z => absurd z.2 c_21)
      · skip
        refine wp_iload_n d_TC_man_18 rfl rfl ?_
        refine wp_bipush (v := 9) d_TC_man_19 (by decide) ?_
        refine wp_icmp_le (t := 27) d_TC_man_21 (by decide) (fun c_21 => ?_) (fun c_21 => ?_)
        · skip
          refine wp_aload_n d_TC_man_27 rfl rfl rfl ?_
          refine gC_0 gf_TC_24_0 d_TC_man_28 ?_
          refine gK_7 (s := 0) (by decide) gf_TC_67_1 d_TC_man_31 ?_
          rw [h7]
          refine wp_bipush (v := 6) d_TC_man_34 (by decide) ?_
          refine wp_icmp_lt (t := 42) d_TC_man_36 (by decide) (fun c_36 => ?_) (fun c_36 => ?_)
          · skip
            have hx : 0 ≤ x ∧ x ≤ 6 := ⟨Int32.not_lt.mp c_1, (i_lt (a := 7) (b := 6) rfl).mp c_9⟩
            have hv : 0 ≤ y ∧ y ≤ 9 := ⟨Int32.not_lt.mp c_15, c_21⟩
            have hn6 : n < 6 := (nI_ltI (b := 6) (by have := hst.1.1; omega) (by decide)).mp c_36
            obtain ⟨k0, hk, rfl⟩ := (i_rng (m := x) (n := 7) (by decide)).mp ⟨hx.1, c_9⟩
            obtain ⟨v0, hv0, rfl⟩ := (i_rng (m := y) (n := 10) (by decide)).mp ⟨hv.1, (i_lt (a := 10) (b := 9) rfl).mpr c_21⟩
            refine wp_aload_n d_TC_man_42 rfl rfl rfl ?_
            refine gC_0 gf_TC_24_0 d_TC_man_43 ?_
            refine wp_iload_n d_TC_man_46 rfl rfl ?_
            refine wp_aload_n d_TC_man_47 rfl rfl rfl ?_
            refine gC_0 gf_TC_24_0 d_TC_man_48 ?_
            refine gK_7 (s := 0) (by decide) gf_TC_67_1 d_TC_man_51 ?_
            rw [h7]
            refine wp_iload_n d_TC_man_54 rfl rfl ?_
            refine wp_callS (M' := m_TC_newMan) (as := [_, _, _]) (D' := D - 1) (C1 := 1) (C2 := 0) (S1 := 2) (S2 := 0) d_TC_man_55 w_335 w_336 k_TC_newMan (Nat.le_of_ble_eq_true rfl) rfl (Nat.le_of_ble_eq_true rfl) (by omega) rfl rfl ?_
            refine c_TC_newMan (by omega) hk ?_
            rw [ht_len, hR.1, ht_app, show 58 + (39 + r.2.length) = 97 + r.2.length from by omega]
            refine toS 0 ?_
            refine wp_callV (r := (R_1, T_1, 15)) (M' := m_Si_join) (as := [_]) (D' := D - 1) (C1 := 0) (C2 := 0) (S1 := 0) (S2 := 0) d_TC_man_58 rfl w_392 w_393 w_394 (ts_0 (by decide)) k_Si_join (Nat.le_of_ble_eq_true rfl) rfl (Nat.le_of_ble_eq_true rfl) (by omega) rfl rfl ?_
            refine c_Si_join (by omega) (by decide) h7 (hst.1.2.1) hn6 hk (by rw [ks_id, ht_E hR.1]; exact List.getElem?_concat_length ..) (fun j2 b2 e1 e2 e3 e4 e5 e6 e7 => ?_)
            refine wp_ireturn d_TC_man_61 rfl rfl ?_
            exact kk k0 v0 hk hv0 rfl rfl hn6 j2 b2 e1 e2 e3 e4 e5 e6 e7
          · skip
            refine wp_bipush (v := (-4)) d_TC_man_39 (by decide) ?_
            refine wp_ireturn d_TC_man_41 rfl rfl ?_
            have hx : 0 ≤ x ∧ x ≤ 6 := ⟨Int32.not_lt.mp c_1, (i_lt (a := 7) (b := 6) rfl).mp c_9⟩
            have hv : 0 ≤ y ∧ y ≤ 9 := ⟨Int32.not_lt.mp c_15, c_21⟩
            have hn6 : n = 6 := by
              have h1 : ¬ n < 6 := fun z => c_36 ((nI_ltI (b := 6) (by omega) (by decide)).mpr z)
              have h2 := hst.1.1
              omega
            exact kf hx hv hn6
        · skip
          refine wp_bipush (v := (-2)) d_TC_man_24 (by decide) ?_
          refine wp_ireturn d_TC_man_26 rfl rfl ?_
          have hx : 0 ≤ x ∧ x ≤ 6 := ⟨Int32.not_lt.mp c_1, (i_lt (a := 7) (b := 6) rfl).mp c_9⟩
          first
            | exact kb hx (fun z => absurd z.1 (Int32.not_le.mpr c_15))
            | exact kb hx (fun z => absurd z.2 c_21)
    · skip
      refine wp_iconst (v := (-1)) d_TC_man_12 rfl ?_
      refine wp_ireturn d_TC_man_13 rfl rfl ?_
      first
        | exact kn (fun z => absurd z.1 (Int32.not_le.mpr c_1))
        | exact kn (fun z => c_9 ((i_lt (a := 7) (b := 6) rfl).mpr z.2))
end TDK
