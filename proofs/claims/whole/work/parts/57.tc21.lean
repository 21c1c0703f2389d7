theorem i_m1 {x : Int32} (h : ¬ x = -1) (h2 : ¬ x < -1) : 0 ≤ x := by
  rw [Int32.le_iff_toInt_le]
  rw [Int32.lt_iff_toInt_lt] at h2
  have h3 : ¬ x.toInt = (-1 : Int32).toInt := fun z => h (Int32.toInt_inj.mp z)
  have e : (-1 : Int32).toInt = -1 := rfl
  have e0 : (0 : Int32).toInt = 0 := rfl
  omega
theorem jd_i : ∀ l, l < 61 → ∀ m, m < 7 → (nI l - nI m - 1).toInt = (l : Int) - m - 1 := by decide +kernel
theorem jd_c {l m a : Nat} (hl : l ≤ 60) (hm : m ≤ 6) (ha : a < 2 ^ 31) : (nI l - nI m - 1 < nI a) ↔ ¬ (lN a + lN m < lN l) := by
  rw [lN_add, pk_lLT (by omega) (by omega), Int32.lt_iff_toInt_lt, jd_i l (by omega) m (by omega), nI_toInt ha]
  omega
section TDK
variable {G : px_G} {D : Nat} {K K1 : tc_K} {MZ h : px_H} {r r1 : tc_r} {Q : Option Value → px_H → Prop} {mn : tc_mn} {sc : tc_sc} {B : Nat} {S : sp_St} {t0 : Int32} {hl fr : Nat → Int32}
set_option maxRecDepth 4000 in
theorem c_TC_see {x : Int32} {ns : Nat} (hD : 0 ≤ D) (hct : K.1 0 12 = nI ns) (hn6 : ns ≤ 6) (ke : x = -1 → Q (some (.int 0)) (HT (ks K 0 (upd (K.1 0) 12 0) (K.2.1 0) (K.2.2.1 0) (K.2.2.2.1 0)) MZ r)) (kb : ¬ x = -1 → ¬ (0 ≤ x ∧ x ≤ 19) → Q (some (.int (-2))) (HT K MZ r)) (kf : ¬ x = -1 → (0 ≤ x ∧ x ≤ 19) → ns = 6 → Q (some (.int (-4))) (HT K MZ r)) (kk : ¬ x = -1 → (0 ≤ x ∧ x ≤ 19) → ns < 6 → Q (some (.int (nI (ns + 1)))) (HT (ks K 0 (upd (K.1 0) 12 (nI (ns + 1))) (va_up (K.2.1 0) 5 (upd (K.2.1 0 5) ns x)) (K.2.2.1 0) (K.2.2.2.1 0)) MZ r)) : px_W G D 0 0 m_TC_see 0 (px_ent 2 [.ref 0, .int x]) [] (HT K MZ r) Q := by
  show px_W _ _ _ _ _ _ [some (.ref 0), some (.int x)] [] _ _
  refine wp_iload_n d_TC_see_0 rfl rfl ?_
  refine wp_iconst (v := (-1)) d_TC_see_1 rfl ?_
  refine wp_icmp_lt (t := 11) d_TC_see_2 (by decide) (fun c_2 => ?_) (fun c_2 => ?_)
  · skip
    refine wp_bipush (v := (-2)) d_TC_see_11 (by decide) ?_
    refine wp_ireturn d_TC_see_13 rfl rfl ?_
    first
      | exact kb (fun z => absurd c_2 (by rw [z]; decide)) (fun z => absurd c_2 (Int32.not_lt.mpr (Int32.le_trans (show (-1 : Int32) ≤ 0 from by decide) z.1)))
      | exact kb (fun z => c_8 (by rw [z]; decide)) (fun z => c_8 ((i_lt (a := 20) (b := 19) rfl).mpr z.2))
  · skip
    refine wp_iload_n d_TC_see_5 rfl rfl ?_
    refine wp_bipush (v := 20) d_TC_see_6 (by decide) ?_
    refine wp_icmp_lt (t := 14) d_TC_see_8 (by decide) (fun c_8 => ?_) (fun c_8 => ?_)
    · skip
      refine wp_iload_n d_TC_see_14 rfl rfl ?_
      refine wp_iconst (v := (-1)) d_TC_see_15 rfl ?_
      refine wp_icmp_ne (t := 29) d_TC_see_16 (by decide) (fun c_16 => ?_) (fun c_16 => ?_)
      · skip
        refine wp_aload_n d_TC_see_29 rfl rfl rfl ?_
        refine gC_0 gf_TC_24_0 d_TC_see_30 ?_
        refine gK_12 (s := 0) (by decide) gf_TC_240_1 d_TC_see_33 ?_
        refine wp_bipush (v := (nI 6)) d_TC_see_36 (by decide) ?_
        rw [hct]
        refine wp_icmp_lt (t := 44) d_TC_see_38 (by decide) (fun c_38 => ?_) (fun c_38 => ?_)
        · skip
          have hns : ns < 6 := (nI_ltI (by omega) (by decide)).mp c_38
          have hx : 0 ≤ x ∧ x ≤ 19 := ⟨i_m1 c_16 c_2, (i_lt (a := 20) (b := 19) rfl).mp c_8⟩
          refine wp_aload_n d_TC_see_44 rfl rfl rfl ?_
          refine gC_0 gf_TC_24_0 d_TC_see_45 ?_
          refine gK_5 (s := 0) (by decide) gf_TC_243_1 d_TC_see_48 ?_
          refine wp_aload_n d_TC_see_51 rfl rfl rfl ?_
          refine gC_0 gf_TC_24_0 d_TC_see_52 ?_
          refine gK_12 (s := 0) (by decide) gf_TC_240_1 d_TC_see_55 ?_
          refine wp_iload_n d_TC_see_58 rfl rfl ?_
          rw [hct]
          refine toS 0 ?_
          refine sS_5 (by decide) d_TC_see_59 (vp_in_nI hns (by decide)) ?_
          rw [nI_clamp (by omega)]
          refine wp_aload_n d_TC_see_60 rfl rfl rfl ?_
          refine gC_0 gf_TC_24_0 d_TC_see_61 ?_
          refine wp_dup d_TC_see_64 rfl ?_
          refine gK_12 (s := 0) (by decide) gf_TC_240_1 d_TC_see_65 ?_
          refine wp_iconst (v := 1) d_TC_see_68 rfl ?_
          refine wp_iadd d_TC_see_69 ?_
          refine toS 0 ?_
          refine pS_12 (by decide) pgf_TC_240_1 d_TC_see_70 ?_
          refine wp_aload_n d_TC_see_73 rfl rfl rfl ?_
          refine gC_0 gf_TC_24_0 d_TC_see_74 ?_
          refine gK_12 (s := 0) (by decide) gf_TC_240_1 d_TC_see_77 ?_
          refine wp_ireturn d_TC_see_80 rfl rfl ?_
          rw [ks_tw]
          show Q (some (.int (K.1 0 12 + 1))) (HT (ks K 0 (upd (K.1 0) 12 (K.1 0 12 + 1)) (va_up (K.2.1 0) 5 (upd (K.2.1 0 5) ns x)) (K.2.2.1 0) (K.2.2.2.1 0)) MZ r)
          rw [hct, nI_1]
          exact kk c_16 hx hns
        · skip
          refine wp_bipush (v := (-4)) d_TC_see_41 (by decide) ?_
          refine wp_ireturn d_TC_see_43 rfl rfl ?_
          exact kf c_16 ⟨i_m1 c_16 c_2, (i_lt (a := 20) (b := 19) rfl).mp c_8⟩ (Nat.le_antisymm hn6 (Decidable.of_not_not (fun z => c_38 (nI_lt (by omega) (by decide)))))
      · skip
        refine wp_aload_n d_TC_see_19 rfl rfl rfl ?_
        refine gC_0 gf_TC_24_0 d_TC_see_20 ?_
        refine wp_iconst (v := 0) d_TC_see_23 rfl ?_
        refine toS 0 ?_
        refine pS_12 (by decide) pgf_TC_240_1 d_TC_see_24 ?_
        refine wp_iconst (v := 0) d_TC_see_27 rfl ?_
        refine wp_ireturn d_TC_see_28 rfl rfl ?_
        exact ke c_16
    · skip
      refine wp_bipush (v := (-2)) d_TC_see_11 (by decide) ?_
      refine wp_ireturn d_TC_see_13 rfl rfl ?_
      first
        | exact kb (fun z => absurd c_2 (by rw [z]; decide)) (fun z => absurd c_2 (Int32.not_lt.mpr (Int32.le_trans (show (-1 : Int32) ≤ 0 from by decide) z.1)))
        | exact kb (fun z => c_8 (by rw [z]; decide)) (fun z => c_8 ((i_lt (a := 20) (b := 19) rfl).mpr z.2))
set_option maxRecDepth 4000 in
theorem c_TC_book {x u : Int32} {ns : Nat} (hD : 0 ≤ D) (hct : K.1 0 13 = nI ns) (hn8 : ns ≤ 8) (ke : x = -1 → Q (some (.int 0)) (HT (ks K 0 (upd (K.1 0) 13 0) (K.2.1 0) (K.2.2.1 0) (K.2.2.2.1 0)) MZ r)) (kb : ¬ x = -1 → ¬ (0 ≤ x ∧ x ≤ 19) → Q (some (.int (-2))) (HT K MZ r)) (kf : ¬ x = -1 → (0 ≤ x ∧ x ≤ 19) → ns = 8 → Q (some (.int (-4))) (HT K MZ r)) (kk : ¬ x = -1 → (0 ≤ x ∧ x ≤ 19) → ns < 8 → Q (some (.int (nI (ns + 1)))) (HT (ks K 0 (upd (K.1 0) 13 (nI (ns + 1))) (va_up (K.2.1 0) 6 (upd (K.2.1 0 6) ns (2 * x + (if u = 0 then 0 else 1)))) (K.2.2.1 0) (K.2.2.2.1 0)) MZ r)) : px_W G D 0 0 m_TC_book 0 (px_ent 3 [.ref 0, .int x, .int u]) [] (HT K MZ r) Q := by
  show px_W _ _ _ _ _ _ [some (.ref 0), some (.int x), some (.int u)] [] _ _
  refine wp_iload_n d_TC_book_0 rfl rfl ?_
  refine wp_iconst (v := (-1)) d_TC_book_1 rfl ?_
  refine wp_icmp_lt (t := 11) d_TC_book_2 (by decide) (fun c_2 => ?_) (fun c_2 => ?_)
  · skip
    refine wp_bipush (v := (-2)) d_TC_book_11 (by decide) ?_
    refine wp_ireturn d_TC_book_13 rfl rfl ?_
    first
      | exact kb (fun z => absurd c_2 (by rw [z]; decide)) (fun z => absurd c_2 (Int32.not_lt.mpr (Int32.le_trans (show (-1 : Int32) ≤ 0 from by decide) z.1)))
      | exact kb (fun z => c_8 (by rw [z]; decide)) (fun z => c_8 ((i_lt (a := 20) (b := 19) rfl).mpr z.2))
  · skip
    refine wp_iload_n d_TC_book_5 rfl rfl ?_
    refine wp_bipush (v := 20) d_TC_book_6 (by decide) ?_
    refine wp_icmp_lt (t := 14) d_TC_book_8 (by decide) (fun c_8 => ?_) (fun c_8 => ?_)
    · skip
      refine wp_iload_n d_TC_book_14 rfl rfl ?_
      refine wp_iconst (v := (-1)) d_TC_book_15 rfl ?_
      refine wp_icmp_ne (t := 29) d_TC_book_16 (by decide) (fun c_16 => ?_) (fun c_16 => ?_)
      · skip
        refine wp_aload_n d_TC_book_29 rfl rfl rfl ?_
        refine gC_0 gf_TC_24_0 d_TC_book_30 ?_
        refine gK_13 (s := 0) (by decide) gf_TC_261_1 d_TC_book_33 ?_
        refine wp_bipush (v := (nI 8)) d_TC_book_36 (by decide) ?_
        rw [hct]
        refine wp_icmp_lt (t := 44) d_TC_book_38 (by decide) (fun c_38 => ?_) (fun c_38 => ?_)
        · skip
          have hns : ns < 8 := (nI_ltI (by omega) (by decide)).mp c_38
          have hx : 0 ≤ x ∧ x ≤ 19 := ⟨i_m1 c_16 c_2, (i_lt (a := 20) (b := 19) rfl).mp c_8⟩
          refine wp_aload_n d_TC_book_44 rfl rfl rfl ?_
          refine gC_0 gf_TC_24_0 d_TC_book_45 ?_
          refine gK_6 (s := 0) (by decide) gf_TC_264_1 d_TC_book_48 ?_
          refine wp_aload_n d_TC_book_51 rfl rfl rfl ?_
          refine gC_0 gf_TC_24_0 d_TC_book_52 ?_
          refine gK_13 (s := 0) (by decide) gf_TC_261_1 d_TC_book_55 ?_
          refine wp_iconst (v := 2) d_TC_book_58 rfl ?_
          refine wp_iload_n d_TC_book_59 rfl rfl ?_
          refine wp_imul d_TC_book_60 ?_
          refine wp_iload_n d_TC_book_61 rfl rfl ?_
          refine wp_if_eq (t := 69) d_TC_book_62 (by decide) (fun c_62 => ?_) (fun c_62 => ?_)
          · skip
            refine wp_iconst (v := 0) d_TC_book_69 rfl ?_
            refine wp_iadd d_TC_book_70 ?_
            rw [hct]
            refine toS 0 ?_
            refine sS_6 (by decide) d_TC_book_71 (vp_in_nI hns (by decide)) ?_
            rw [nI_clamp (by omega)]
            refine wp_aload_n d_TC_book_72 rfl rfl rfl ?_
            refine gC_0 gf_TC_24_0 d_TC_book_73 ?_
            refine wp_dup d_TC_book_76 rfl ?_
            refine gK_13 (s := 0) (by decide) gf_TC_261_1 d_TC_book_77 ?_
            refine wp_iconst (v := 1) d_TC_book_80 rfl ?_
            refine wp_iadd d_TC_book_81 ?_
            refine toS 0 ?_
            refine pS_13 (by decide) pgf_TC_261_1 d_TC_book_82 ?_
            refine wp_aload_n d_TC_book_85 rfl rfl rfl ?_
            refine gC_0 gf_TC_24_0 d_TC_book_86 ?_
            refine gK_13 (s := 0) (by decide) gf_TC_261_1 d_TC_book_89 ?_
            refine wp_ireturn d_TC_book_92 rfl rfl ?_
            first
              | (have k2 := kk c_16 hx hns
                 rw [if_neg c_62] at k2
                 rw [ks_tw]
                 show Q (some (.int (K.1 0 13 + 1))) (HT (ks K 0 (upd (K.1 0) 13 (K.1 0 13 + 1)) (va_up (K.2.1 0) 6 (upd (K.2.1 0 6) ns (2 * x + 1))) (K.2.2.1 0) (K.2.2.2.1 0)) MZ r)
                 rw [hct, nI_1]
                 exact k2)
              | (have k2 := kk c_16 hx hns
                 rw [if_pos c_62] at k2
                 rw [ks_tw]
                 show Q (some (.int (K.1 0 13 + 1))) (HT (ks K 0 (upd (K.1 0) 13 (K.1 0 13 + 1)) (va_up (K.2.1 0) 6 (upd (K.2.1 0 6) ns (2 * x + 0))) (K.2.2.1 0) (K.2.2.2.1 0)) MZ r)
                 rw [hct, nI_1]
                 exact k2)
          · skip
            refine wp_iconst (v := 1) d_TC_book_65 rfl ?_
            refine wp_goto (t := 70) d_TC_book_66 (by decide) ?_
            refine wp_iadd d_TC_book_70 ?_
            rw [hct]
            refine toS 0 ?_
            refine sS_6 (by decide) d_TC_book_71 (vp_in_nI hns (by decide)) ?_
            rw [nI_clamp (by omega)]
            refine wp_aload_n d_TC_book_72 rfl rfl rfl ?_
            refine gC_0 gf_TC_24_0 d_TC_book_73 ?_
            refine wp_dup d_TC_book_76 rfl ?_
            refine gK_13 (s := 0) (by decide) gf_TC_261_1 d_TC_book_77 ?_
            refine wp_iconst (v := 1) d_TC_book_80 rfl ?_
            refine wp_iadd d_TC_book_81 ?_
            refine toS 0 ?_
            refine pS_13 (by decide) pgf_TC_261_1 d_TC_book_82 ?_
            refine wp_aload_n d_TC_book_85 rfl rfl rfl ?_
            refine gC_0 gf_TC_24_0 d_TC_book_86 ?_
            refine gK_13 (s := 0) (by decide) gf_TC_261_1 d_TC_book_89 ?_
            refine wp_ireturn d_TC_book_92 rfl rfl ?_
            first
              | (have k2 := kk c_16 hx hns
                 rw [if_neg c_62] at k2
                 rw [ks_tw]
                 show Q (some (.int (K.1 0 13 + 1))) (HT (ks K 0 (upd (K.1 0) 13 (K.1 0 13 + 1)) (va_up (K.2.1 0) 6 (upd (K.2.1 0 6) ns (2 * x + 1))) (K.2.2.1 0) (K.2.2.2.1 0)) MZ r)
                 rw [hct, nI_1]
                 exact k2)
              | (have k2 := kk c_16 hx hns
                 rw [if_pos c_62] at k2
                 rw [ks_tw]
                 show Q (some (.int (K.1 0 13 + 1))) (HT (ks K 0 (upd (K.1 0) 13 (K.1 0 13 + 1)) (va_up (K.2.1 0) 6 (upd (K.2.1 0 6) ns (2 * x + 0))) (K.2.2.1 0) (K.2.2.2.1 0)) MZ r)
                 rw [hct, nI_1]
                 exact k2)
        · skip
          refine wp_bipush (v := (-4)) d_TC_book_41 (by decide) ?_
          refine wp_ireturn d_TC_book_43 rfl rfl ?_
          exact kf c_16 ⟨i_m1 c_16 c_2, (i_lt (a := 20) (b := 19) rfl).mp c_8⟩ (Nat.le_antisymm hn8 (Decidable.of_not_not (fun z => c_38 (nI_lt (by omega) (by decide)))))
      · skip
        refine wp_aload_n d_TC_book_19 rfl rfl rfl ?_
        refine gC_0 gf_TC_24_0 d_TC_book_20 ?_
        refine wp_iconst (v := 0) d_TC_book_23 rfl ?_
        refine toS 0 ?_
        refine pS_13 (by decide) pgf_TC_261_1 d_TC_book_24 ?_
        refine wp_iconst (v := 0) d_TC_book_27 rfl ?_
        refine wp_ireturn d_TC_book_28 rfl rfl ?_
        exact ke c_16
    · skip
      refine wp_bipush (v := (-2)) d_TC_book_11 (by decide) ?_
      refine wp_ireturn d_TC_book_13 rfl rfl ?_
      first
        | exact kb (fun z => absurd c_2 (by rw [z]; decide)) (fun z => absurd c_2 (Int32.not_lt.mpr (Int32.le_trans (show (-1 : Int32) ≤ 0 from by decide) z.1)))
        | exact kb (fun z => c_8 (by rw [z]; decide)) (fun z => c_8 ((i_lt (a := 20) (b := 19) rfl).mpr z.2))
theorem ch_nar : ∀ t, t < 128 → vp_nar .char (((nI t).toUInt32 % 65536).toInt32) = nI t := by decide +kernel
set_option maxRecDepth 4000 in
theorem c_TC_feed {x : Int32} {nf : Nat} (hD : 0 ≤ D) (h9 : K.1 5 9 = nI nf) (hn100 : nf ≤ 100) (kb : ¬ (0 ≤ x ∧ x ≤ 127) → Q (some (.int (-2))) (HT K MZ r)) (kf : (0 ≤ x ∧ x ≤ 127) → nf = 100 → Q (some (.int (-4))) (HT K MZ r)) (kk : ∀ t, t < 128 → x = nI t → (0 ≤ x ∧ x ≤ 127) → nf < 100 → Q (some (.int (nI (nf + 1)))) (HT (kJ (kB K 5 (va_up (K.2.1 5) 4 (upd (K.2.1 5 4) nf (nI t)))) 5 (upd (K.1 5) 9 (nI (nf + 1)))) MZ r)) : px_W G D 0 0 m_TC_feed 0 (px_ent 2 [.ref 0, .int x]) [] (HT K MZ r) Q := by
  show px_W _ _ _ _ _ _ [some (.ref 0), some (.int x)] [] _ _
  refine wp_iload_n d_TC_feed_0 rfl rfl ?_
  refine wp_if_lt (t := 10) d_TC_feed_1 (by decide) (fun c_1 => ?_) (fun c_1 => ?_)
  · skip
    refine wp_bipush (v := (-2)) d_TC_feed_10 (by decide) ?_
    refine wp_ireturn d_TC_feed_12 rfl rfl ?_
    first
      | exact kb (fun z => absurd z.1 (Int32.not_le.mpr c_1))
      | exact kb (fun z => c_7 z.2)
  · skip
    refine wp_iload_n d_TC_feed_4 rfl rfl ?_
    refine wp_bipush (v := 127) d_TC_feed_5 (by decide) ?_
    refine wp_icmp_le (t := 13) d_TC_feed_7 (by decide) (fun c_7 => ?_) (fun c_7 => ?_)
    · skip
      refine wp_aload_n d_TC_feed_13 rfl rfl rfl ?_
      refine gC_9 gf_TC_140_0 d_TC_feed_14 ?_
      refine wp_bipush (v := (nI 100)) d_TC_feed_17 (by decide) ?_
      rw [h9]
      refine wp_icmp_lt (t := 25) d_TC_feed_19 (by decide) (fun c_19 => ?_) (fun c_19 => ?_)
      · skip
        have hx : 0 ≤ x ∧ x ≤ 127 := ⟨Int32.not_lt.mp c_1, c_7⟩
        obtain ⟨t, ht, rfl⟩ := sp_n30 (M := 127) (N := 127) rfl hx
        have hnf : nf < 100 := (nI_ltI (by omega) (by decide)).mp c_19
        refine wp_aload_n d_TC_feed_25 rfl rfl rfl ?_
        refine gC_4 gf_TC_46_0 d_TC_feed_26 ?_
        refine wp_aload_n d_TC_feed_29 rfl rfl rfl ?_
        refine gC_9 gf_TC_140_0 d_TC_feed_30 ?_
        refine wp_iload_n d_TC_feed_33 rfl rfl ?_
        refine wp_i2c d_TC_feed_34 ?_
        rw [h9]
        refine sA_42 d_TC_feed_35 (vp_in_nI hnf (by decide)) ?_
        rw [nI_clamp (by omega), ch_nar t (by omega)]
        refine wp_aload_n d_TC_feed_36 rfl rfl rfl ?_
        refine wp_dup d_TC_feed_37 rfl ?_
        refine gC_9 gf_TC_140_0 d_TC_feed_38 ?_
        refine wp_iconst (v := 1) d_TC_feed_41 rfl ?_
        refine wp_iadd d_TC_feed_42 ?_
        refine pC_9 pgf_TC_140_0 d_TC_feed_43 ?_
        refine wp_aload_n d_TC_feed_46 rfl rfl rfl ?_
        refine gC_9 gf_TC_140_0 d_TC_feed_47 ?_
        refine wp_ireturn d_TC_feed_50 rfl rfl ?_
        show Q (some (.int (K.1 5 9 + 1))) (HT (kJ (kB K 5 (va_up (K.2.1 5) 4 (upd (K.2.1 5 4) nf (nI t)))) 5 (upd (K.1 5) 9 (K.1 5 9 + 1))) MZ r)
        rw [h9, nI_1]
        exact kk t (by omega) rfl hx hnf
      · skip
        refine wp_bipush (v := (-4)) d_TC_feed_22 (by decide) ?_
        refine wp_ireturn d_TC_feed_24 rfl rfl ?_
        exact kf ⟨Int32.not_lt.mp c_1, c_7⟩ (Nat.le_antisymm hn100 (Decidable.of_not_not (fun z => c_19 (nI_lt (by omega) (by decide)))))
    · skip
      refine wp_bipush (v := (-2)) d_TC_feed_10 (by decide) ?_
      refine wp_ireturn d_TC_feed_12 rfl rfl ?_
      first
        | exact kb (fun z => absurd z.1 (Int32.not_le.mpr c_1))
        | exact kb (fun z => c_7 z.2)
set_option maxRecDepth 4000 in
theorem c_TC_count {x : Int32} (hD : 0 ≤ D) (k0 : x = 0 → Q (some (.int (K.1 0 7))) (HT K MZ r)) (k1 : x = 1 → Q (some (.int (K.1 5 8))) (HT K MZ r)) (k2 : x = 2 → Q (some (.int (K.1 0 12))) (HT K MZ r)) (k3 : x = 3 → Q (some (.int (K.1 0 13))) (HT K MZ r)) (k4 : x = 4 → Q (some (.int (K.1 5 9))) (HT K MZ r)) (k5 : x = 5 → Q (some (.int (K.2.1 5 6 0))) (HT K MZ r)) (kb : ¬ x = 0 → ¬ x = 1 → ¬ x = 2 → ¬ x = 3 → ¬ x = 4 → ¬ x = 5 → Q (some (.int (-2))) (HT K MZ r)) : px_W G D 0 0 m_TC_count 0 (px_ent 2 [.ref 0, .int x]) [] (HT K MZ r) Q := by
  show px_W _ _ _ _ _ _ [some (.ref 0), some (.int x)] [] _ _
  refine wp_iload_n d_TC_count_0 rfl rfl ?_
  refine wp_topi (fun y_1 e_1 => ?_)
  by_cases s_1_0 : y_1 = 0
  · rw [s_1_0]
    refine wp_tableIn (off := 39) (t := 40) d_TC_count_1 (by decide) (by decide) rfl (by decide) ?_
    refine wp_aload_n d_TC_count_40 rfl rfl rfl ?_
    refine gC_0 gf_TC_24_0 d_TC_count_41 ?_
    refine gK_7 (s := 0) (by decide) gf_TC_67_1 d_TC_count_44 ?_
    refine wp_ireturn d_TC_count_47 rfl rfl ?_
    exact k0 (e_1.symm.trans s_1_0)
  by_cases s_1_1 : y_1 = 1
  · rw [s_1_1]
    refine wp_tableIn (off := 47) (t := 48) d_TC_count_1 (by decide) (by decide) rfl (by decide) ?_
    refine wp_aload_n d_TC_count_48 rfl rfl rfl ?_
    refine gC_8 gf_TC_143_0 d_TC_count_49 ?_
    refine wp_ireturn d_TC_count_52 rfl rfl ?_
    exact k1 (e_1.symm.trans s_1_1)
  by_cases s_1_2 : y_1 = 2
  · rw [s_1_2]
    refine wp_tableIn (off := 52) (t := 53) d_TC_count_1 (by decide) (by decide) rfl (by decide) ?_
    refine wp_aload_n d_TC_count_53 rfl rfl rfl ?_
    refine gC_0 gf_TC_24_0 d_TC_count_54 ?_
    refine gK_12 (s := 0) (by decide) gf_TC_240_1 d_TC_count_57 ?_
    refine wp_ireturn d_TC_count_60 rfl rfl ?_
    exact k2 (e_1.symm.trans s_1_2)
  by_cases s_1_3 : y_1 = 3
  · rw [s_1_3]
    refine wp_tableIn (off := 60) (t := 61) d_TC_count_1 (by decide) (by decide) rfl (by decide) ?_
    refine wp_aload_n d_TC_count_61 rfl rfl rfl ?_
    refine gC_0 gf_TC_24_0 d_TC_count_62 ?_
    refine gK_13 (s := 0) (by decide) gf_TC_261_1 d_TC_count_65 ?_
    refine wp_ireturn d_TC_count_68 rfl rfl ?_
    exact k3 (e_1.symm.trans s_1_3)
  by_cases s_1_4 : y_1 = 4
  · rw [s_1_4]
    refine wp_tableIn (off := 68) (t := 69) d_TC_count_1 (by decide) (by decide) rfl (by decide) ?_
    refine wp_aload_n d_TC_count_69 rfl rfl rfl ?_
    refine gC_9 gf_TC_140_0 d_TC_count_70 ?_
    refine wp_ireturn d_TC_count_73 rfl rfl ?_
    exact k4 (e_1.symm.trans s_1_4)
  by_cases s_1_5 : y_1 = 5
  · rw [s_1_5]
    refine wp_tableIn (off := 73) (t := 74) d_TC_count_1 (by decide) (by decide) rfl (by decide) ?_
    refine wp_aload_n d_TC_count_74 rfl rfl rfl ?_
    refine gC_6 gf_TC_57_0 d_TC_count_75 ?_
    refine wp_iconst (v := 0) d_TC_count_78 rfl ?_
    refine lA_56 d_TC_count_79 (vp_in_nI (n := 0) (by decide) (by decide)) ?_
    refine wp_ireturn d_TC_count_80 rfl rfl ?_
    exact k5 (e_1.symm.trans s_1_5)
  have n_1_0 : y_1.toInt ≠ 0 := lv_neT s_1_0 rfl
  have n_1_1 : y_1.toInt ≠ 1 := lv_neT s_1_1 rfl
  have n_1_2 : y_1.toInt ≠ 2 := lv_neT s_1_2 rfl
  have n_1_3 : y_1.toInt ≠ 3 := lv_neT s_1_3 rfl
  have n_1_4 : y_1.toInt ≠ 4 := lv_neT s_1_4 rfl
  have n_1_5 : y_1.toInt ≠ 5 := lv_neT s_1_5 rfl
  refine wp_tableOut (t := 81) d_TC_count_1 (by omega) (by decide) ?_
  refine wp_bipush (v := (-2)) d_TC_count_81 (by decide) ?_
  refine wp_ireturn d_TC_count_83 rfl rfl ?_
  exact kb (fun z => s_1_0 (e_1.trans z)) (fun z => s_1_1 (e_1.trans z)) (fun z => s_1_2 (e_1.trans z)) (fun z => s_1_3 (e_1.trans z)) (fun z => s_1_4 (e_1.trans z)) (fun z => s_1_5 (e_1.trans z))
set_option maxRecDepth 4000 in
theorem c_TC_trace {x : Int32} (hD : 0 ≤ D) (kn : (∀ i, i < 20 → x = nI i → ¬ x < K.2.1 5 6 0) → Q (some (.int (-1))) (HT K MZ r)) (kk : ∀ i, i < 20 → x = nI i → x < K.2.1 5 6 0 → Q (some (.int (K.2.1 5 6 (1 + i)))) (HT K MZ r)) : px_W G D 0 0 m_TC_trace 0 (px_ent 2 [.ref 0, .int x]) [] (HT K MZ r) Q := by
  show px_W _ _ _ _ _ _ [some (.ref 0), some (.int x)] [] _ _
  refine wp_iload_n d_TC_trace_0 rfl rfl ?_
  refine wp_if_lt (t := 20) d_TC_trace_1 (by decide) (fun c_1 => ?_) (fun c_1 => ?_)
  · skip
    refine wp_iconst (v := (-1)) d_TC_trace_20 rfl ?_
    refine wp_ireturn d_TC_trace_21 rfl rfl ?_
    first
      | exact kn (fun i hi z => by rw [z] at c_1; exact absurd c_1 (nI_pos (by omega)))
      | exact kn (fun i hi z => by rw [z] at c_7; exact absurd c_7 (nI_ge hi (by decide)))
      | exact kn (fun i hi z => c_17)
  · skip
    refine wp_iload_n d_TC_trace_4 rfl rfl ?_
    refine wp_bipush (v := (nI 20)) d_TC_trace_5 (by decide) ?_
    refine wp_icmp_ge (t := 20) d_TC_trace_7 (by decide) (fun c_7 => ?_) (fun c_7 => ?_)
    · skip
      refine wp_iconst (v := (-1)) d_TC_trace_20 rfl ?_
      refine wp_ireturn d_TC_trace_21 rfl rfl ?_
      first
        | exact kn (fun i hi z => by rw [z] at c_1; exact absurd c_1 (nI_pos (by omega)))
        | exact kn (fun i hi z => by rw [z] at c_7; exact absurd c_7 (nI_ge hi (by decide)))
        | exact kn (fun i hi z => c_17)
    · skip
      refine wp_iload_n d_TC_trace_10 rfl rfl ?_
      refine wp_aload_n d_TC_trace_11 rfl rfl rfl ?_
      refine gC_6 gf_TC_57_0 d_TC_trace_12 ?_
      refine wp_iconst (v := 0) d_TC_trace_15 rfl ?_
      refine lA_56 d_TC_trace_16 (vp_in_nI (n := 0) (by decide) (by decide)) ?_
      refine wp_icmp_lt (t := 22) d_TC_trace_17 (by decide) (fun c_17 => ?_) (fun c_17 => ?_)
      · skip
        obtain ⟨i, hi, rfl⟩ := (i_rng (m := x) (n := 20) (by decide)).mp ⟨Int32.not_lt.mp c_1, Int32.not_le.mp c_7⟩
        refine wp_aload_n d_TC_trace_22 rfl rfl rfl ?_
        refine gC_6 gf_TC_57_0 d_TC_trace_23 ?_
        refine wp_iconst (v := 1) d_TC_trace_26 rfl ?_
        refine wp_iload_n d_TC_trace_27 rfl rfl ?_
        refine wp_iadd d_TC_trace_28 ?_
        rw [show (1 : Int32) + nI i = nI (1 + i) from nI_add 1 i]
        refine lA_56 d_TC_trace_29 (vp_in_nI (by omega) (by decide)) ?_
        rw [nI_clamp (by omega)]
        refine wp_ireturn d_TC_trace_30 rfl rfl ?_
        exact kk i hi rfl c_17
      · skip
        refine wp_iconst (v := (-1)) d_TC_trace_20 rfl ?_
        refine wp_ireturn d_TC_trace_21 rfl rfl ?_
        first
          | exact kn (fun i hi z => by rw [z] at c_1; exact absurd c_1 (nI_pos (by omega)))
          | exact kn (fun i hi z => by rw [z] at c_7; exact absurd c_7 (nI_ge hi (by decide)))
          | exact kn (fun i hi z => c_17)
set_option maxRecDepth 4000 in
theorem l_TC_judge_38 {n l t : Nat} {x y : Int32} (h7 : K.1 0 7 = nI n) (hn6 : n ≤ 6) (ht : t < 6) (hlen : K.1 (6 + t) 2 = nI l) (hl60 : l ≤ 60) (hso : K.1 (6 + t) 1 < 0 → l = 0) : ∀ (q m : Nat), m + q = n → Q (some (.int (sp_jdg (K.2.1 0 2) (fun m => K.2.2.2.2 t (x + nI m).toNatClampNeg) (K.1 (6 + t) 1) (nI l) x q m))) (HT K MZ r) → px_W G D 0 0 m_TC_judge 38 [some (.ref 0), some (.int y), some (.int x), some (.ref (44 + 2 * t)), some (.int (nI m))] [] (HT K MZ r) Q := by
  intro q
  induction q with
  | zero =>
    intro m hmq k
    refine wp_iload d_TC_judge_38 rfl ?_
    refine wp_aload_n d_TC_judge_40 rfl rfl rfl ?_
    refine gC_0 gf_TC_24_0 d_TC_judge_41 ?_
    refine gK_7 (s := 0) (by decide) gf_TC_67_1 d_TC_judge_44 ?_
    rw [h7]
    refine wp_icmp_ge (t := 108) d_TC_judge_47 (by decide) (fun c_47 => ?_) (fun c_47 => absurd (nI_le (by omega) (by omega)) c_47)
    refine wp_bipush (v := (-5)) d_TC_judge_108 (by decide) ?_
    refine wp_ireturn d_TC_judge_110 rfl rfl ?_
    exact k
  | succ q ih =>
    intro m hmq k
    have hjd : (sp_jdg (K.2.1 0 2) (fun m => K.2.2.2.2 t (x + nI m).toNatClampNeg) (K.1 (6 + t) 1) (nI l) x (q + 1) m) = if K.1 (6 + t) 1 < 0 ∨ x < 0 ∨ nI l - nI m - 1 < x then 100 + nI m else if lg_cmp (K.2.2.2.2 t (x + nI m).toNatClampNeg) (K.2.1 0 2 m).toInt64 = 0 then (sp_jdg (K.2.1 0 2) (fun m => K.2.2.2.2 t (x + nI m).toNatClampNeg) (K.1 (6 + t) 1) (nI l) x q (m + 1)) else nI m := rfl
    rw [hjd] at k
    refine wp_iload d_TC_judge_38 rfl ?_
    refine wp_aload_n d_TC_judge_40 rfl rfl rfl ?_
    refine gC_0 gf_TC_24_0 d_TC_judge_41 ?_
    refine gK_7 (s := 0) (by decide) gf_TC_67_1 d_TC_judge_44 ?_
    rw [h7]
    refine wp_icmp_ge (t := 108) d_TC_judge_47 (by decide) (fun c_47 => absurd c_47 (nI_ge (by omega) (by omega))) (fun c_47 => ?_)
    refine wp_iload_n d_TC_judge_50 rfl rfl ?_
    refine wp_if_lt (t := 69) d_TC_judge_51 (by decide) (fun c_51 => ?_) (fun c_51 => ?_)
    · skip
      refine wp_bipush (v := 100) d_TC_judge_69 (by decide) ?_
      refine wp_iload d_TC_judge_71 rfl ?_
      refine wp_iadd d_TC_judge_73 ?_
      refine wp_ireturn d_TC_judge_74 rfl rfl ?_
      first
        | (rw [if_pos (Or.inr (Or.inl c_51))] at k; exact k)
        | (rw [if_pos (Or.inr (Or.inr ((jd_c (by omega) (by omega) ha).mpr (fun z => c_66 ((lg_cmp_lt _ _).mpr z)))))] at k; exact k)
    · skip
      obtain ⟨a, ha, rfl⟩ := nI_of c_51
      refine wp_iload_n d_TC_judge_54 rfl rfl ?_
      refine wp_i2l d_TC_judge_55 ?_
      refine wp_iload d_TC_judge_56 rfl ?_
      refine wp_i2l d_TC_judge_58 ?_
      refine wp_ladd d_TC_judge_59 ?_
      refine wp_aload_n d_TC_judge_60 rfl rfl rfl ?_
      refine gT_2 ht gf_TC_273_4 d_TC_judge_61 ?_
      refine wp_i2l d_TC_judge_64 ?_
      rw [nI_l (by omega), nI_l (by omega), hlen, nI_l (by omega)]
      refine wp_lcmp d_TC_judge_65 ?_
      refine wp_if_lt (t := 75) d_TC_judge_66 (by decide) (fun c_66 => ?_) (fun c_66 => ?_)
      · skip
        have hnc : lN a + lN m < lN l := (lg_cmp_lt _ _).mp c_66
        have ham : a + m < l := by
          rw [lN_add, pk_lLT (by omega) (by omega)] at hnc
          exact hnc
        refine wp_aload_n d_TC_judge_75 rfl rfl rfl ?_
        refine gT_0 ht gf_TC_276_4 d_TC_judge_76 ?_
        refine wp_iload_n d_TC_judge_79 rfl rfl ?_
        refine wp_iload d_TC_judge_80 rfl ?_
        refine wp_iadd d_TC_judge_82 ?_
        refine wp_lald d_TC_judge_83 (ty_at ht) (by rw [nI_add]; exact vp_in_nI (by omega) (by decide)) ?_
        refine wp_aload_n d_TC_judge_84 rfl rfl rfl ?_
        refine gC_0 gf_TC_24_0 d_TC_judge_85 ?_
        refine gK_2 (s := 0) (by decide) gf_TC_115_1 d_TC_judge_88 ?_
        refine wp_iload d_TC_judge_91 rfl ?_
        refine lK_2 (s := 0) (by decide) d_TC_judge_93 (vp_in_nI (by omega) (by decide)) ?_
        rw [nI_clamp (by omega)]
        refine wp_i2l d_TC_judge_94 ?_
        refine wp_lcmp d_TC_judge_95 ?_
        refine wp_if_eq (t := 102) d_TC_judge_96 (by decide) (fun c_96 => ?_) (fun c_96 => ?_)
        · skip
          refine wp_iinc (v := _ + 1) (ls' := [_, _, _, _, _]) d_TC_judge_102 (by decide) rfl rfl rfl ?_
          refine wp_goto (t := 38) d_TC_judge_105 (by decide) ?_
          rw [if_neg (fun z => z.elim (fun z => absurd (hso z) (by omega)) (fun z => z.elim (fun z => absurd z (nI_pos ha)) (fun z => (jd_c (by omega) (by omega) ha).mp z hnc))), if_pos c_96] at k
          rw [show nI m + 1 = nI (m + 1) from nI_1 m]
          exact ih (m + 1) (by omega) k
        · skip
          refine wp_iload d_TC_judge_99 rfl ?_
          refine wp_ireturn d_TC_judge_101 rfl rfl ?_
          rw [if_neg (fun z => z.elim (fun z => absurd (hso z) (by omega)) (fun z => z.elim (fun z => absurd z (nI_pos ha)) (fun z => (jd_c (by omega) (by omega) ha).mp z hnc))), if_neg c_96] at k
          exact k
      · skip
        refine wp_bipush (v := 100) d_TC_judge_69 (by decide) ?_
        refine wp_iload d_TC_judge_71 rfl ?_
        refine wp_iadd d_TC_judge_73 ?_
        refine wp_ireturn d_TC_judge_74 rfl rfl ?_
        first
          | (rw [if_pos (Or.inr (Or.inl c_51))] at k; exact k)
          | (rw [if_pos (Or.inr (Or.inr ((jd_c (by omega) (by omega) ha).mpr (fun z => c_66 ((lg_cmp_lt _ _).mpr z)))))] at k; exact k)
set_option maxRecDepth 4000 in
theorem c_TC_judge {n : Nat} {y x : Int32} (hD : 1 ≤ D) (h7 : K.1 0 7 = nI n) (hn6 : n ≤ 6) (htp : ∀ t, t < 6 → ∃ l, l ≤ 60 ∧ K.1 (6 + t) 2 = nI l ∧ (K.1 (6 + t) 1 < 0 → l = 0)) (kn : ¬ (0 ≤ y ∧ y ≤ 5) → Q (some (.int (-1))) (HT K MZ r)) (kc : ∀ t, t < 6 → y = nI t → ¬ (K.1 (6 + t) 1 = -1 ∨ K.1 (6 + t) 1 = 2) → Q (some (.int (-12))) (HT K MZ r)) (kk : ∀ t l, t < 6 → y = nI t → K.1 (6 + t) 2 = nI l → l ≤ 60 → (K.1 (6 + t) 1 = -1 ∨ K.1 (6 + t) 1 = 2) → Q (some (.int (sp_jdg (K.2.1 0 2) (fun m => K.2.2.2.2 t (x + nI m).toNatClampNeg) (K.1 (6 + t) 1) (nI l) x n 0))) (HT K MZ r)) : px_W G D 0 0 m_TC_judge 0 (px_ent 5 [.ref 0, .int y, .int x]) [] (HT K MZ r) Q := by
  show px_W _ _ _ _ _ _ [some (.ref 0), some (.int y), some (.int x), none, none] [] _ _
  refine wp_iload_n d_TC_judge_0 rfl rfl ?_
  refine wp_callS (M' := m_TC_isNoTape) (as := [_]) (D' := D - 1) (C1 := 0) (C2 := 0) (S1 := 0) (S2 := 0) d_TC_judge_1 w_840 w_841 k_TC_isNoTape (Nat.le_of_ble_eq_true rfl) rfl (Nat.le_of_ble_eq_true rfl) (by omega) rfl rfl ?_
  refine c_TC_isNoTape (by omega)  (fun ht0 => ?_) (fun ht0 => ?_)
  · skip
    refine wp_if_eq (t := 9) d_TC_judge_4 (by decide) (fun c_4 => (absurd c_4 (by decide))) (fun c_4 => ?_)
    refine wp_iconst (v := (-1)) d_TC_judge_7 rfl ?_
    refine wp_ireturn d_TC_judge_8 rfl rfl ?_
    exact kn ht0
  · skip
    refine wp_if_eq (t := 9) d_TC_judge_4 (by decide) (fun c_4 => ?_) (fun c_4 => (absurd c_4 (by decide)))
    obtain ⟨t, ht, rfl⟩ := (i_rng (m := y) (n := 6) (by decide)).mp ⟨ht0.1, (i_lt (a := nI 6) (b := 5) rfl).mpr ht0.2⟩
    obtain ⟨l, hl60, hlen, hso⟩ := htp t ht
    refine wp_aload_n d_TC_judge_9 rfl rfl rfl ?_
    refine gC_5 gf_TC_52_0 d_TC_judge_10 ?_
    refine wp_iload_n d_TC_judge_13 rfl rfl ?_
    refine lA_43 ht d_TC_judge_14 ?_
    refine wp_astore_n (ls' := [_, _, _, _, _]) d_TC_judge_15 rfl (by decide) rfl rfl ?_
    refine wp_aload_n d_TC_judge_16 rfl rfl rfl ?_
    refine gT_1 ht gf_TC_270_4 d_TC_judge_17 ?_
    refine wp_iconst (v := (-1)) d_TC_judge_20 rfl ?_
    refine wp_icmp_eq (t := 35) d_TC_judge_21 (by decide) (fun c_21 => ?_) (fun c_21 => ?_)
    · skip
      refine wp_iconst (v := (nI 0)) d_TC_judge_35 rfl ?_
      refine wp_istore (ls' := [_, _, _, _, _]) d_TC_judge_36 (by decide) rfl ?_
      have k2 := kk t l ht rfl hlen hl60 (by first | exact Or.inl c_21 | exact Or.inr c_29)
      exact l_TC_judge_38 h7 hn6 ht hlen hl60 hso n 0 (Nat.zero_add n) k2
    · skip
      refine wp_aload_n d_TC_judge_24 rfl rfl rfl ?_
      refine gT_1 ht gf_TC_270_4 d_TC_judge_25 ?_
      refine wp_iconst (v := 2) d_TC_judge_28 rfl ?_
      refine wp_icmp_eq (t := 35) d_TC_judge_29 (by decide) (fun c_29 => ?_) (fun c_29 => ?_)
      · skip
        refine wp_iconst (v := (nI 0)) d_TC_judge_35 rfl ?_
        refine wp_istore (ls' := [_, _, _, _, _]) d_TC_judge_36 (by decide) rfl ?_
        have k2 := kk t l ht rfl hlen hl60 (by first | exact Or.inl c_21 | exact Or.inr c_29)
        exact l_TC_judge_38 h7 hn6 ht hlen hl60 hso n 0 (Nat.zero_add n) k2
      · skip
        refine wp_bipush (v := (-12)) d_TC_judge_32 (by decide) ?_
        refine wp_ireturn d_TC_judge_34 rfl rfl ?_
        exact kc t ht rfl (fun z => z.elim (fun z => c_21 z) (fun z => c_29 z))
set_option maxRecDepth 4000 in
theorem c_TC_image {n : Nat} {kd vd : Nat → Int32} {ln : Nat → Nat} {cl : List sp_Cl} (hD : 2 ≤ D) (hR : tc_R mn sc MZ r) (hst : st_ok mn sc K 0 n B kd vd ln cl) (hB : B ≤ 20000) (kk : ∀ j2 b2 w2 j3 b3, si_cp (K.1 0) (K.1 1) j2 (K.2.1 0) (K.2.1 1) b2 (K.2.2.1 0) w2 → si_cn (K.1 0) j2 j3 (K.2.1 0) b2 b3 → Q (some (.int (K.1 0 7))) (HT (kJ (ks K 1 j3 b3 w2 (K.2.2.2.1 0)) 5 (upd (K.1 5) 10 1)) MZ r)) : px_W G D 0 0 m_TC_image 0 (px_ent 1 [.ref 0]) [] (HT K MZ r) Q := by
  show px_W _ _ _ _ _ _ [some (.ref 0)] [] _ _
  refine wp_aload_n d_TC_image_0 rfl rfl rfl ?_
  refine gC_1 gf_TC_30_0 d_TC_image_1 ?_
  refine wp_aload_n d_TC_image_4 rfl rfl rfl ?_
  refine gC_0 gf_TC_24_0 d_TC_image_5 ?_
  refine toS 1 ?_
  refine wp_callV (r := (R_1, T_1, 15)) (M' := m_Si_copyChain) (as := [_]) (D' := D - 1) (C1 := 0) (C2 := 0) (S1 := 0) (S2 := 0) d_TC_image_8 rfl w_847 w_709 w_710 (ts_0 (by decide)) k_Si_copyChain (Nat.le_of_ble_eq_true rfl) rfl (Nat.le_of_ble_eq_true rfl) (by omega) rfl rfl ?_
  refine c_Si_copyChain (by omega) (by decide) (by decide) (by decide) hR hst.2.2.2.1 (fun j2 b2 w2 hcp => ?_)
  refine wp_aload_n d_TC_image_11 rfl rfl rfl ?_
  refine gC_1 gf_TC_30_0 d_TC_image_12 ?_
  refine wp_aload_n d_TC_image_15 rfl rfl rfl ?_
  refine gC_0 gf_TC_24_0 d_TC_image_16 ?_
  refine toS 1 ?_
  refine wp_callV (r := (R_1, T_1, 15)) (M' := m_Si_copyNotes) (as := [_]) (D' := D - 1) (C1 := 0) (C2 := 0) (S1 := 0) (S2 := 0) d_TC_image_19 rfl w_848 w_849 w_850 (ts_0 (by decide)) k_Si_copyNotes (Nat.le_of_ble_eq_true rfl) rfl (Nat.le_of_ble_eq_true rfl) (by omega) rfl rfl ?_
  refine c_Si_copyNotes (by omega) (by decide) (by decide) (by decide) (fun j3 b3 hcn => ?_)
  rw [ks_tw]
  refine wp_aload_n d_TC_image_22 rfl rfl rfl ?_
  refine wp_iconst (v := 1) d_TC_image_23 rfl ?_
  refine pC_10 rfl rfl pgf_TC_286_0 d_TC_image_24 ?_
  refine wp_aload_n d_TC_image_27 rfl rfl rfl ?_
  refine gC_0 gf_TC_24_0 d_TC_image_28 ?_
  refine gK_7 (s := 0) (by decide) gf_TC_67_1 d_TC_image_31 ?_
  refine wp_ireturn d_TC_image_34 rfl rfl ?_
  exact kk j2 b2 w2 j3 b3 hcp hcn
set_option maxRecDepth 4000 in
theorem c_TC_undo  (hD : 2 ≤ D) (hR : tc_R mn sc MZ r) (hmi : mn_ok mn (K.2.2.1 1)) (ks0 : K.1 5 10 = 0 → Q (some (.int (-3))) (HT K MZ r)) (kk : ¬ K.1 5 10 = 0 → ∀ j2 b2 w2 j3 b3, si_cp (K.1 1) (K.1 0) j2 (K.2.1 1) (K.2.1 0) b2 (K.2.2.1 1) w2 → si_cn (K.1 1) j2 j3 (K.2.1 1) b2 b3 → Q (some (.int (j3 7))) (HT (ks K 0 j3 b3 w2 (K.2.2.2.1 1)) MZ r)) : px_W G D 0 0 m_TC_undo 0 (px_ent 1 [.ref 0]) [] (HT K MZ r) Q := by
  show px_W _ _ _ _ _ _ [some (.ref 0)] [] _ _
  refine wp_aload_n d_TC_undo_0 rfl rfl rfl ?_
  refine gC_10 gf_TC_286_0 d_TC_undo_1 ?_
  refine wp_if_ne (t := 10) d_TC_undo_4 (by decide) (fun c_4 => ?_) (fun c_4 => ?_)
  · skip
    refine wp_aload_n d_TC_undo_10 rfl rfl rfl ?_
    refine gC_0 gf_TC_24_0 d_TC_undo_11 ?_
    refine wp_aload_n d_TC_undo_14 rfl rfl rfl ?_
    refine gC_1 gf_TC_30_0 d_TC_undo_15 ?_
    refine toS 0 ?_
    refine wp_callV (r := (R_1, T_1, 15)) (M' := m_Si_copyChain) (as := [_]) (D' := D - 1) (C1 := 0) (C2 := 0) (S1 := 0) (S2 := 0) d_TC_undo_18 rfl w_847 w_709 w_710 (ts_0 (by decide)) k_Si_copyChain (Nat.le_of_ble_eq_true rfl) rfl (Nat.le_of_ble_eq_true rfl) (by omega) rfl rfl ?_
    refine c_Si_copyChain (by omega) (by decide) (by decide) (by decide) hR hmi (fun j2 b2 w2 hcp => ?_)
    refine wp_aload_n d_TC_undo_21 rfl rfl rfl ?_
    refine gC_0 gf_TC_24_0 d_TC_undo_22 ?_
    refine wp_aload_n d_TC_undo_25 rfl rfl rfl ?_
    refine gC_1 gf_TC_30_0 d_TC_undo_26 ?_
    refine toS 0 ?_
    refine wp_callV (r := (R_1, T_1, 15)) (M' := m_Si_copyNotes) (as := [_]) (D' := D - 1) (C1 := 0) (C2 := 0) (S1 := 0) (S2 := 0) d_TC_undo_29 rfl w_848 w_849 w_850 (ts_0 (by decide)) k_Si_copyNotes (Nat.le_of_ble_eq_true rfl) rfl (Nat.le_of_ble_eq_true rfl) (by omega) rfl rfl ?_
    refine c_Si_copyNotes (by omega) (by decide) (by decide) (by decide) (fun j3 b3 hcn => ?_)
    rw [ks_tw]
    refine wp_aload_n d_TC_undo_32 rfl rfl rfl ?_
    refine gC_0 gf_TC_24_0 d_TC_undo_33 ?_
    refine gK_7 (s := 0) (by decide) gf_TC_67_1 d_TC_undo_36 ?_
    refine wp_ireturn d_TC_undo_39 rfl rfl ?_
    exact kk c_4 j2 b2 w2 j3 b3 hcp hcn
  · skip
    refine wp_bipush (v := (-3)) d_TC_undo_7 (by decide) ?_
    refine wp_ireturn d_TC_undo_9 rfl rfl ?_
    exact ks0 c_4
end TDK
