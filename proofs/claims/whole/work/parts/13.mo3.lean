def bI (b : Bool) : Int32 := if b = true then 1 else 0
theorem bI_nar (b : Bool) : narrow .boolean (.int (bI b)) = .int (bI b) := by cases b <;> rfl
theorem bI_0 {b : Bool} : bI b = 0 ↔ b = false := by cases b <;> decide
/-- a pile of booleans, the latest first -/
def mo_pl (f : Nat → Int32) : List Bool → Prop
  | [] => True
  | b :: s => f s.length = bI b ∧ mo_pl f s
theorem mo_pl.up {f : Nat → Int32} {k : Nat} {x : Int32} : ∀ {s : List Bool}, mo_pl f s → s.length ≤ k → mo_pl (upd f k x) s
  | [], _, _ => trivial
  | b :: s, h, hk => ⟨by
      have : s.length ≠ k := by simp at hk; omega
      show (if s.length = k then x else f s.length) = bI b
      rw [if_neg this]; exact h.1, mo_pl.up h.2 (by simp at hk; omega)⟩
theorem mo_pl.push {f : Nat → Int32} {s : List Bool} {x : Int32} {b : Bool} (h : mo_pl f s) (hx : x = bI b) : mo_pl (upd f s.length x) (b :: s) := ⟨by show (if s.length = s.length then x else f s.length) = bI b; rw [if_pos rfl]; exact hx, h.up (Nat.le_refl _)⟩
def sp_top (fact : Nat → Int32) (ts : List Nat) (s : List Bool) : Bool := match sp_ev fact ts s with
  | some (b :: _) => b
  | _ => false
def sp_tst (fact : Nat → Int32) (t : Nat) : Bool := if t / 100 % 10 = 0 then decide (fact (t / 1000) < nI (t % 100)) else if t / 100 % 10 = 1 then decide (fact (t / 1000) = nI (t % 100)) else decide (nI (t % 100) < fact (t / 1000))
theorem sp_top_t {fact : Nat → Int32} {t : Nat} {ts : List Nat} {s : List Bool} (h : t < 6000) : sp_top fact (t :: ts) s = sp_top fact ts (sp_tst fact t :: s) := by
  have e : sp_ev fact (t :: ts) s = sp_ev fact ts (sp_tst fact t :: s) := by
    rw [sp_ev.eq_def]
    exact if_pos h
  show (match sp_ev fact (t :: ts) s with | some (b :: _) => b | _ => false) = _
  rw [e]; rfl
theorem sp_top_n {fact : Nat → Int32} {ts : List Nat} {s : List Bool} {b : Bool} : sp_top fact (6000 :: ts) (b :: s) = sp_top fact ts ((!b) :: s) := by
  show (match sp_ev fact (6000 :: ts) (b :: s) with | some (b :: _) => b | _ => false) = _
  rw [sp_ev, if_neg (by decide), if_pos rfl]; rfl
theorem sp_top_a {fact : Nat → Int32} {ts : List Nat} {s : List Bool} {a b : Bool} : sp_top fact (6001 :: ts) (b :: a :: s) = sp_top fact ts ((a && b) :: s) := by
  show (match sp_ev fact (6001 :: ts) (b :: a :: s) with | some (b :: _) => b | _ => false) = _
  rw [sp_ev, if_neg (by decide), if_neg (by decide)]; rfl
theorem sp_top_o {fact : Nat → Int32} {ts : List Nat} {s : List Bool} {a b : Bool} : sp_top fact (6002 :: ts) (b :: a :: s) = sp_top fact ts ((a || b) :: s) := by
  show (match sp_ev fact (6002 :: ts) (b :: a :: s) with | some (b :: _) => b | _ => false) = _
  rw [sp_ev, if_neg (by decide), if_neg (by decide)]; rfl
theorem sp_dp_t {t n : Nat} {ts : List Nat} {r : Option Nat} (h : t < 6000) (hd : sp_dp (t :: ts) n = r) : sp_dp ts (n + 1) = r := by rw [sp_dp, if_pos h] at hd; exact hd
theorem sp_dp_n {n r : Nat} {ts : List Nat} (hd : sp_dp (6000 :: ts) n = some r) : 1 ≤ n ∧ sp_dp ts n = some r := by
  rw [sp_dp, if_neg (by decide), if_pos rfl] at hd
  by_cases h : 1 ≤ n
  · rw [if_pos h] at hd; exact ⟨h, hd⟩
  · rw [if_neg h] at hd; cases hd
theorem sp_dp_b {t n r : Nat} {ts : List Nat} (h1 : 6000 < t) (hd : sp_dp (t :: ts) n = some r) : 2 ≤ n ∧ sp_dp ts (n - 1) = some r := by
  rw [sp_dp, if_neg (by omega), if_neg (by omega)] at hd
  by_cases h : 2 ≤ n
  · rw [if_pos h] at hd; exact ⟨h, hd⟩
  · rw [if_neg h] at hd; cases hd
theorem mo_enc_t {t : Nat} (h : t < 6000) : mo_enc t = nI t := by unfold mo_enc; rw [if_pos h]
theorem mo_div {a : Nat} (d : Nat) (h : a < 2 ^ 31) (h0 : 0 < d) (hd : d < 2 ^ 31) : nI a / nI d = nI (a / d) := pk_div h h0 hd

section MO3
variable {G : px_G} {D : Nat} {X E : px_H} {I : Nat → Int32} {A : Nat → Nat → Int32} {L : Nat → Nat → Int64} {Q : Option Value → px_H → Prop}
set_option maxRecDepth 4000 in
theorem c_Mo_factOf {f m p : Nat} (hD : 0 ≤ D) (hf : f < 10) (hm : m < 6) (hp : I 29 = nI p) (k : Q (some (.int (sp_fact (A 5) (A 6) (A 7) m p f))) (HM X I A L E)) : px_W G D 0 0 m_Mo_factOf 0 (px_ent 3 [.ref X.length, .int (nI f), .int (nI m)]) [] (HM X I A L E) Q := by
  show px_W _ _ _ _ _ _ [some (.ref X.length), some (.int (nI f)), some (.int (nI m))] [] _ _
  refine wp_iload_n d_Mo_factOf_0 rfl rfl ?_
  refine wp_topi (fun y_1 e_1 => ?_)
  by_cases s_1_0 : y_1 = 0
  · rw [s_1_0]
    refine wp_tableIn (off := 35) (t := 36) d_Mo_factOf_1 (by decide) (by decide) rfl (by decide) ?_
    refine wp_iload_n d_Mo_factOf_36 rfl rfl ?_
    refine wp_ireturn d_Mo_factOf_37 rfl rfl ?_
    have q : f = 0 := (nI_eq (by omega) (by decide)).mp (e_1.symm.trans s_1_0)
    subst q
    exact k
  by_cases s_1_1 : y_1 = 1
  · rw [s_1_1]
    refine wp_tableIn (off := 37) (t := 38) d_Mo_factOf_1 (by decide) (by decide) rfl (by decide) ?_
    refine wp_aload_n d_Mo_factOf_38 rfl rfl rfl ?_
    refine gM_5 rfl d_Mo_factOf_39 ?_
    refine wp_iload_n d_Mo_factOf_42 rfl rfl ?_
    refine lM_5 d_Mo_factOf_43 (vp_in_nI hm (by decide)) ?_
    refine wp_ireturn d_Mo_factOf_44 rfl rfl ?_
    have q : f = 1 := (nI_eq (by omega) (by decide)).mp (e_1.symm.trans s_1_1)
    subst q
    rw [nI_clamp (by omega)]
    exact k
  by_cases s_1_2 : y_1 = 2
  · rw [s_1_2]
    refine wp_tableIn (off := 44) (t := 45) d_Mo_factOf_1 (by decide) (by decide) rfl (by decide) ?_
    refine wp_aload_n d_Mo_factOf_45 rfl rfl rfl ?_
    refine gM_29 rfl d_Mo_factOf_46 ?_
    refine wp_ireturn d_Mo_factOf_49 rfl rfl ?_
    have q : f = 2 := (nI_eq (by omega) (by decide)).mp (e_1.symm.trans s_1_2)
    subst q
    rw [hp]
    exact k
  by_cases s_1_3 : y_1 = 3
  · rw [s_1_3]
    refine wp_tableIn (off := 49) (t := 50) d_Mo_factOf_1 (by decide) (by decide) rfl (by decide) ?_
    refine wp_aload_n d_Mo_factOf_50 rfl rfl rfl ?_
    refine gM_7 rfl d_Mo_factOf_51 ?_
    refine wp_iload_n d_Mo_factOf_54 rfl rfl ?_
    refine lM_7 d_Mo_factOf_55 (vp_in_nI hm (by decide)) ?_
    refine wp_bipush (v := 10) d_Mo_factOf_56 (by decide) ?_
    refine wp_irem d_Mo_factOf_58 (by decide) ?_
    refine wp_ireturn d_Mo_factOf_59 rfl rfl ?_
    have q : f = 3 := (nI_eq (by omega) (by decide)).mp (e_1.symm.trans s_1_3)
    subst q
    rw [nI_clamp (by omega)]
    exact k
  by_cases s_1_4 : y_1 = 4
  · rw [s_1_4]
    refine wp_tableIn (off := 59) (t := 60) d_Mo_factOf_1 (by decide) (by decide) rfl (by decide) ?_
    refine wp_aload_n d_Mo_factOf_60 rfl rfl rfl ?_
    refine gM_7 rfl d_Mo_factOf_61 ?_
    refine wp_iload_n d_Mo_factOf_64 rfl rfl ?_
    refine lM_7 d_Mo_factOf_65 (vp_in_nI hm (by decide)) ?_
    refine wp_bipush (v := 10) d_Mo_factOf_66 (by decide) ?_
    refine wp_idiv d_Mo_factOf_68 (by decide) ?_
    refine wp_bipush (v := 99) d_Mo_factOf_69 (by decide) ?_
    refine wp_icmp_le (t := 79) d_Mo_factOf_71 (by decide) (fun c_71 => ?_) (fun c_71 => ?_)
    · skip
      refine wp_aload_n d_Mo_factOf_79 rfl rfl rfl ?_
      refine gM_7 rfl d_Mo_factOf_80 ?_
      refine wp_iload_n d_Mo_factOf_83 rfl rfl ?_
      refine lM_7 d_Mo_factOf_84 (vp_in_nI hm (by decide)) ?_
      refine wp_bipush (v := 10) d_Mo_factOf_85 (by decide) ?_
      refine wp_idiv d_Mo_factOf_87 (by decide) ?_
      refine wp_ireturn d_Mo_factOf_88 rfl rfl ?_
      have q : f = 4 := (nI_eq (by omega) (by decide)).mp (e_1.symm.trans s_1_4)
      subst q
      rw [nI_clamp (by omega)] at c_71
      rw [nI_clamp (by omega)]
      rw [show sp_fact (A 5) (A 6) (A 7) m p 4 = A 7 m / 10 from if_neg (Int32.not_lt.mpr c_71)] at k
      exact k
    · skip
      refine wp_bipush (v := 99) d_Mo_factOf_74 (by decide) ?_
      refine wp_goto (t := 88) d_Mo_factOf_76 (by decide) ?_
      refine wp_ireturn d_Mo_factOf_88 rfl rfl ?_
      have q : f = 4 := (nI_eq (by omega) (by decide)).mp (e_1.symm.trans s_1_4)
      subst q
      rw [nI_clamp (by omega)] at c_71
      rw [show sp_fact (A 5) (A 6) (A 7) m p 4 = 99 from if_pos (Int32.not_le.mp c_71)] at k
      exact k
  have n_1_0 : y_1.toInt ≠ 0 := lv_neT s_1_0 rfl
  have n_1_1 : y_1.toInt ≠ 1 := lv_neT s_1_1 rfl
  have n_1_2 : y_1.toInt ≠ 2 := lv_neT s_1_2 rfl
  have n_1_3 : y_1.toInt ≠ 3 := lv_neT s_1_3 rfl
  have n_1_4 : y_1.toInt ≠ 4 := lv_neT s_1_4 rfl
  refine wp_tableOut (t := 89) d_Mo_factOf_1 (by omega) (by decide) ?_
  refine wp_aload_n d_Mo_factOf_89 rfl rfl rfl ?_
  refine gM_6 rfl d_Mo_factOf_90 ?_
  refine wp_iload_n d_Mo_factOf_93 rfl rfl ?_
  refine lM_6 d_Mo_factOf_94 (vp_in_nI hm (by decide)) ?_
  refine wp_ireturn d_Mo_factOf_95 rfl rfl ?_
  rw [nI_clamp (by omega)]
  rw [show sp_fact (A 5) (A 6) (A 7) m p f = A 6 m from (if_neg (fun z => s_1_0 (by rw [e_1, z]; rfl))).trans ((if_neg (fun z => s_1_1 (by rw [e_1, z]; rfl))).trans ((if_neg (fun z => s_1_2 (by rw [e_1, z]; rfl))).trans ((if_neg (fun z => s_1_3 (by rw [e_1, z]; rfl))).trans (if_neg (fun z => s_1_4 (by rw [e_1, z]; rfl))))))] at k
  exact k
set_option maxRecDepth 4000 in
set_option maxHeartbeats 1000000 in
theorem l_Mo_holdsTest_10 {b j fr len m p : Nat} (hD : 1 ≤ D) (hm : m < 6) (hp : I 29 = nI p) (hbj : b + j < 60) (hfl : fr + len ≤ 600) (e20 : A 20 (b + j) = nI fr) (e21 : A 21 (b + j) = nI (fr + len)) : ∀ (ts : List Nat) (i : Nat) (s : List Bool) (f : Nat → Int32), (∀ (j t : Nat), ts[j]? = some t → t ≤ 6002 ∧ A 22 (fr + (i + j)) = mo_enc t) → mo_pl f s → sp_dp ts s.length = some 1 → s.length + ts.length ≤ 100 → i + ts.length = len → (∀ f' : Nat → Int32, Q (some (.int (bI (sp_top (sp_fact (A 5) (A 6) (A 7) m p) ts s)))) (HM X I (va_up A 28 f') L E)) → px_W G D 0 0 m_Mo_holdsTest 10 [some (.ref X.length), some (.int (nI (b + j))), some (.int (nI m)), some (.int (nI s.length)), some (.int (nI (fr + i))), none, none, none] [] (HM X I (va_up A 28 f) L E) Q := by
  intro ts
  have e21' : ∀ f : Nat → Int32, va_up A 28 f 21 (nI (b + j)).toNatClampNeg = nI (fr + len) := fun f => by rw [nI_clamp (by omega)]; exact e21
  induction ts with
  | nil =>
    intro i s f hc hpl hdp hsz hi hq
    have hs1 : s.length = 1 := Option.some.inj hdp
    obtain ⟨x, rfl⟩ : ∃ x, s = [x] := by
      match s, hs1 with
      | [x], _ => exact ⟨x, rfl⟩
    have hx : va_up A 28 f 28 (0 : Int32).toNatClampNeg = bI x := hpl.1
    have hi2 : i = len := by simpa using hi
    refine wp_iload d_Mo_holdsTest_10 rfl ?_
    refine wp_aload_n d_Mo_holdsTest_12 rfl rfl rfl ?_
    refine gM_21 rfl d_Mo_holdsTest_13 ?_
    refine wp_iload_n d_Mo_holdsTest_16 rfl rfl ?_
    refine lM_21 d_Mo_holdsTest_17 (vp_in_nI (by omega) (by decide)) ?_
    refine wp_icmp_ge (t := 243) d_Mo_holdsTest_18 (by decide) (fun c_18 => ?_) (fun c_18 => absurd (by rw [e21', hi2]; exact nI_le (Nat.le_refl _) (by omega)) c_18)
    refine wp_aload_n d_Mo_holdsTest_243 rfl rfl rfl ?_
    refine gM_28 rfl d_Mo_holdsTest_244 ?_
    refine wp_iconst (v := 0) d_Mo_holdsTest_247 rfl ?_
    refine lM_28 d_Mo_holdsTest_248 (vp_in_nI (n := 0) (by decide) (by decide)) ?_
    refine wp_ireturn d_Mo_holdsTest_249 rfl (by rw [hx]; exact bI_nar x) ?_
    rw [hx]
    exact hq f
  | cons t ts ih =>
    intro i s f hc hpl hdp hsz hi hq
    obtain ⟨ht, e22⟩ := hc 0 t rfl
    have hlt : i < len := by simp at hi; omega
    have hsz : s.length + (ts.length + 1) ≤ 100 := hsz
    have hi : i + (ts.length + 1) = len := hi
    have e22' : va_up A 28 f 22 (nI (fr + i)).toNatClampNeg = mo_enc t := by rw [nI_clamp (by omega)]; exact e22
    have hc' : ∀ (j t : Nat), ts[j]? = some t → t ≤ 6002 ∧ A 22 (fr + (i + 1 + j)) = mo_enc t := fun j t h => by
      have := hc (j + 1) t (by simpa using h)
      rwa [show fr + (i + (j + 1)) = fr + (i + 1 + j) by omega] at this
    have en : nI (fr + i) + 1 = nI (fr + (i + 1)) := nI_1 (fr + i)
    by_cases h6 : t < 6000
    · rw [mo_enc_t h6] at e22'
      have hdp2 := sp_dp_t h6 hdp
      have hd1 : nI t / 1000 = nI (t / 1000) := mo_div 1000 (by omega) (by decide) (by decide)
      have hd2 : nI t / 100 = nI (t / 100) := mo_div 100 (by omega) (by decide) (by decide)
      have hd3 : nI (t / 100) - nI (t / 100) / 10 * 10 = nI (t / 100 % 10) := pk_rem (by omega) (by decide) (by decide)
      have hd4 : nI t - nI t / 100 * 100 = nI (t % 100) := pk_rem (by omega) (by decide) (by decide)
      have hfin : ∀ x : Int32, x = bI (sp_tst (sp_fact (A 5) (A 6) (A 7) m p) t) → px_W G D 0 0 m_Mo_holdsTest 233 [some (.ref X.length), some (.int (nI (b + j))), some (.int (nI m)), some (.int (nI s.length)), some (.int (nI (fr + i))), none, none, none] [.int x, .int (nI s.length), .ref (X.length + 16)] (HM X I (va_up A 28 f) L E) Q := by
        intro x hx
        refine sM_28 d_Mo_holdsTest_233 (vp_in_nI (by omega) (by decide)) ?_
        refine wp_iinc (v := _ + 1) (ls' := [_, _, _, _, _, _, _, _]) d_Mo_holdsTest_234 (by decide) rfl rfl rfl ?_
        refine wp_iinc (v := _ + 1) (ls' := [_, _, _, _, _, _, _, _]) d_Mo_holdsTest_237 (by decide) rfl rfl rfl ?_
        refine wp_goto (t := 10) d_Mo_holdsTest_240 (by decide) ?_
        rw [en, show nI s.length + 1 = nI (s.length + 1) from nI_1 _, bx_uu, nI_clamp (by omega)]
        rw [sp_top_t h6] at hq
        refine ih (i + 1) (sp_tst (sp_fact (A 5) (A 6) (A 7) m p) t :: s) _ hc' (hpl.push ?_) hdp2 (by simp; omega) (by omega) hq
        rw [hx]
        cases sp_tst (sp_fact (A 5) (A 6) (A 7) m p) t <;> rfl
      refine wp_iload d_Mo_holdsTest_10 rfl ?_
      refine wp_aload_n d_Mo_holdsTest_12 rfl rfl rfl ?_
      refine gM_21 rfl d_Mo_holdsTest_13 ?_
      refine wp_iload_n d_Mo_holdsTest_16 rfl rfl ?_
      refine lM_21 d_Mo_holdsTest_17 (vp_in_nI (by omega) (by decide)) ?_
      refine wp_icmp_ge (t := 243) d_Mo_holdsTest_18 (by decide) (fun c_18 => absurd c_18 (by rw [e21']; exact nI_ge (by omega) (by omega))) (fun c_18 => ?_)
      refine wp_aload_n d_Mo_holdsTest_21 rfl rfl rfl ?_
      refine gM_22 rfl d_Mo_holdsTest_22 ?_
      refine wp_iload d_Mo_holdsTest_25 rfl ?_
      refine lM_22 d_Mo_holdsTest_27 (vp_in_nI (by omega) (by decide)) ?_
      rw [e22']
      refine wp_istore (ls' := [_, _, _, _, _, _, _, _]) d_Mo_holdsTest_28 (by decide) rfl ?_
      refine wp_iload d_Mo_holdsTest_30 rfl ?_
      refine wp_bipush (v := (-33)) d_Mo_holdsTest_32 (by decide) ?_
      refine wp_icmp_ne (t := 64) d_Mo_holdsTest_34 (by decide) (fun c_34 => ?_) (fun c_34 => absurd (show nI t = -33 from c_34) (fun z => absurd (z ▸ nI_pos (by omega) : ¬ (-33 : Int32) < 0) (by decide)))
      refine wp_iload d_Mo_holdsTest_64 rfl ?_
      refine wp_if_ge (t := 143) d_Mo_holdsTest_66 (by decide) (fun c_66 => ?_) (fun c_66 => absurd (nI_pos' (by omega)) c_66)
      refine wp_aload_n d_Mo_holdsTest_143 rfl rfl rfl ?_
      refine wp_iload d_Mo_holdsTest_144 rfl ?_
      refine wp_sipush (v := 1000) d_Mo_holdsTest_146 (by decide) ?_
      refine wp_idiv d_Mo_holdsTest_149 (by decide) ?_
      rw [hd1]
      refine wp_iload_n d_Mo_holdsTest_150 rfl rfl ?_
      refine wp_callV (r := (R_12, T_12, 70)) (M' := m_Mo_factOf) (as := [_, _]) (D' := D - 1) (C1 := 0) (C2 := 0) (S1 := 0) (S2 := 0) d_Mo_holdsTest_151 rfl w_1321 w_1323 w_37 hm_0 k_Mo_factOf (Nat.le_of_ble_eq_true rfl) rfl (Nat.le_of_ble_eq_true rfl) (by omega) rfl rfl ?_
      refine c_Mo_factOf (by omega) (by omega) hm hp ?_
      refine wp_istore (ls' := [_, _, _, _, _, _, _, _]) d_Mo_holdsTest_154 (by decide) rfl ?_
      refine wp_iload d_Mo_holdsTest_156 rfl ?_
      refine wp_bipush (v := 100) d_Mo_holdsTest_158 (by decide) ?_
      refine wp_idiv d_Mo_holdsTest_160 (by decide) ?_
      refine wp_bipush (v := 10) d_Mo_holdsTest_161 (by decide) ?_
      refine wp_irem d_Mo_holdsTest_163 (by decide) ?_
      rw [hd2, hd3]
      refine wp_istore (ls' := [_, _, _, _, _, _, _, _]) d_Mo_holdsTest_164 (by decide) rfl ?_
      refine wp_aload_n d_Mo_holdsTest_166 rfl rfl rfl ?_
      refine gM_28 rfl d_Mo_holdsTest_167 ?_
      refine wp_iload_n d_Mo_holdsTest_170 rfl rfl ?_
      refine wp_iload d_Mo_holdsTest_171 rfl ?_
      refine wp_if_ne (t := 194) d_Mo_holdsTest_173 (by decide) (fun c_173 => ?_) (fun c_173 => ?_)
      · skip
        refine wp_iload d_Mo_holdsTest_194 rfl ?_
        refine wp_iconst (v := 1) d_Mo_holdsTest_196 rfl ?_
        refine wp_icmp_ne (t := 218) d_Mo_holdsTest_197 (by decide) (fun c_197 => ?_) (fun c_197 => ?_)
        · skip
          refine wp_iload d_Mo_holdsTest_218 rfl ?_
          refine wp_iload d_Mo_holdsTest_220 rfl ?_
          refine wp_bipush (v := 100) d_Mo_holdsTest_222 (by decide) ?_
          refine wp_irem d_Mo_holdsTest_224 (by decide) ?_
          rw [hd4]
          refine wp_icmp_le (t := 232) d_Mo_holdsTest_225 (by decide) (fun c_225 => ?_) (fun c_225 => ?_)
          · skip
            refine wp_iconst (v := 0) d_Mo_holdsTest_232 rfl ?_
            refine wp_less (ls' := [some (.ref X.length), some (.int (nI (b + j))), some (.int (nI m)), some (.int (nI s.length)), some (.int (nI (fr + i))), none, none, none]) (by simp [px_leb]) ?_
            refine hfin _ ?_
            unfold sp_tst
            first
              | (rw [if_pos ((nI_eq (by omega) (by decide)).mp c_173)]; exact (congrArg bI (decide_eq_false (Int32.not_lt.mpr c_183))).symm)
              | (rw [if_neg (fun z => c_173 (by rw [z]; rfl)), if_pos ((nI_eq (by omega) (by decide)).mp c_197)]; exact (congrArg bI (decide_eq_false (c_207))).symm)
              | (rw [if_neg (fun z => c_173 (by rw [z]; rfl)), if_neg (fun z => c_197 (by rw [z]; rfl))]; exact (congrArg bI (decide_eq_false (Int32.not_lt.mpr c_225))).symm)
          · skip
            refine wp_iconst (v := 1) d_Mo_holdsTest_228 rfl ?_
            refine wp_goto (t := 233) d_Mo_holdsTest_229 (by decide) ?_
            refine wp_less (ls' := [some (.ref X.length), some (.int (nI (b + j))), some (.int (nI m)), some (.int (nI s.length)), some (.int (nI (fr + i))), none, none, none]) (by simp [px_leb]) ?_
            refine hfin _ ?_
            unfold sp_tst
            first
              | (rw [if_pos ((nI_eq (by omega) (by decide)).mp c_173)]; exact (congrArg bI (decide_eq_true (Int32.not_le.mp c_183))).symm)
              | (rw [if_neg (fun z => c_173 (by rw [z]; rfl)), if_pos ((nI_eq (by omega) (by decide)).mp c_197)]; exact (congrArg bI (decide_eq_true (c_207))).symm)
              | (rw [if_neg (fun z => c_173 (by rw [z]; rfl)), if_neg (fun z => c_197 (by rw [z]; rfl))]; exact (congrArg bI (decide_eq_true (Int32.not_le.mp c_225))).symm)
        · skip
          refine wp_iload d_Mo_holdsTest_200 rfl ?_
          refine wp_iload d_Mo_holdsTest_202 rfl ?_
          refine wp_bipush (v := 100) d_Mo_holdsTest_204 (by decide) ?_
          refine wp_irem d_Mo_holdsTest_206 (by decide) ?_
          rw [hd4]
          refine wp_icmp_ne (t := 214) d_Mo_holdsTest_207 (by decide) (fun c_207 => ?_) (fun c_207 => ?_)
          · skip
            refine wp_iconst (v := 0) d_Mo_holdsTest_214 rfl ?_
            refine wp_goto (t := 233) d_Mo_holdsTest_215 (by decide) ?_
            refine wp_less (ls' := [some (.ref X.length), some (.int (nI (b + j))), some (.int (nI m)), some (.int (nI s.length)), some (.int (nI (fr + i))), none, none, none]) (by simp [px_leb]) ?_
            refine hfin _ ?_
            unfold sp_tst
            first
              | (rw [if_pos ((nI_eq (by omega) (by decide)).mp c_173)]; exact (congrArg bI (decide_eq_false (Int32.not_lt.mpr c_183))).symm)
              | (rw [if_neg (fun z => c_173 (by rw [z]; rfl)), if_pos ((nI_eq (by omega) (by decide)).mp c_197)]; exact (congrArg bI (decide_eq_false (c_207))).symm)
              | (rw [if_neg (fun z => c_173 (by rw [z]; rfl)), if_neg (fun z => c_197 (by rw [z]; rfl))]; exact (congrArg bI (decide_eq_false (Int32.not_lt.mpr c_225))).symm)
          · skip
            refine wp_iconst (v := 1) d_Mo_holdsTest_210 rfl ?_
            refine wp_goto (t := 233) d_Mo_holdsTest_211 (by decide) ?_
            refine wp_less (ls' := [some (.ref X.length), some (.int (nI (b + j))), some (.int (nI m)), some (.int (nI s.length)), some (.int (nI (fr + i))), none, none, none]) (by simp [px_leb]) ?_
            refine hfin _ ?_
            unfold sp_tst
            first
              | (rw [if_pos ((nI_eq (by omega) (by decide)).mp c_173)]; exact (congrArg bI (decide_eq_true (Int32.not_le.mp c_183))).symm)
              | (rw [if_neg (fun z => c_173 (by rw [z]; rfl)), if_pos ((nI_eq (by omega) (by decide)).mp c_197)]; exact (congrArg bI (decide_eq_true (c_207))).symm)
              | (rw [if_neg (fun z => c_173 (by rw [z]; rfl)), if_neg (fun z => c_197 (by rw [z]; rfl))]; exact (congrArg bI (decide_eq_true (Int32.not_le.mp c_225))).symm)
      · skip
        refine wp_iload d_Mo_holdsTest_176 rfl ?_
        refine wp_iload d_Mo_holdsTest_178 rfl ?_
        refine wp_bipush (v := 100) d_Mo_holdsTest_180 (by decide) ?_
        refine wp_irem d_Mo_holdsTest_182 (by decide) ?_
        rw [hd4]
        refine wp_icmp_ge (t := 190) d_Mo_holdsTest_183 (by decide) (fun c_183 => ?_) (fun c_183 => ?_)
        · skip
          refine wp_iconst (v := 0) d_Mo_holdsTest_190 rfl ?_
          refine wp_goto (t := 233) d_Mo_holdsTest_191 (by decide) ?_
          refine wp_less (ls' := [some (.ref X.length), some (.int (nI (b + j))), some (.int (nI m)), some (.int (nI s.length)), some (.int (nI (fr + i))), none, none, none]) (by simp [px_leb]) ?_
          refine hfin _ ?_
          unfold sp_tst
          first
            | (rw [if_pos ((nI_eq (by omega) (by decide)).mp c_173)]; exact (congrArg bI (decide_eq_false (Int32.not_lt.mpr c_183))).symm)
            | (rw [if_neg (fun z => c_173 (by rw [z]; rfl)), if_pos ((nI_eq (by omega) (by decide)).mp c_197)]; exact (congrArg bI (decide_eq_false (c_207))).symm)
            | (rw [if_neg (fun z => c_173 (by rw [z]; rfl)), if_neg (fun z => c_197 (by rw [z]; rfl))]; exact (congrArg bI (decide_eq_false (Int32.not_lt.mpr c_225))).symm)
        · skip
          refine wp_iconst (v := 1) d_Mo_holdsTest_186 rfl ?_
          refine wp_goto (t := 233) d_Mo_holdsTest_187 (by decide) ?_
          refine wp_less (ls' := [some (.ref X.length), some (.int (nI (b + j))), some (.int (nI m)), some (.int (nI s.length)), some (.int (nI (fr + i))), none, none, none]) (by simp [px_leb]) ?_
          refine hfin _ ?_
          unfold sp_tst
          first
            | (rw [if_pos ((nI_eq (by omega) (by decide)).mp c_173)]; exact (congrArg bI (decide_eq_true (Int32.not_le.mp c_183))).symm)
            | (rw [if_neg (fun z => c_173 (by rw [z]; rfl)), if_pos ((nI_eq (by omega) (by decide)).mp c_197)]; exact (congrArg bI (decide_eq_true (c_207))).symm)
            | (rw [if_neg (fun z => c_173 (by rw [z]; rfl)), if_neg (fun z => c_197 (by rw [z]; rfl))]; exact (congrArg bI (decide_eq_true (Int32.not_le.mp c_225))).symm)
    · by_cases h60 : t = 6000
      · subst h60
        obtain ⟨hs1, hdp2⟩ := sp_dp_n hdp
        obtain ⟨x, s, rfl⟩ : ∃ x s', s = x :: s' := by
          match s, hs1 with
          | x :: s, _ => exact ⟨x, s, rfl⟩
        have hsz : s.length + 1 + (ts.length + 1) ≤ 100 := hsz
        rw [show mo_enc 6000 = -33 from rfl] at e22'
        rw [sp_top_n] at hq
        have em : nI (x :: s).length - 1 = nI s.length := nI_pred s.length
        have hx : va_up A 28 f 28 (nI s.length).toNatClampNeg = bI x := by rw [nI_clamp (by omega)]; exact hpl.1
        refine wp_iload d_Mo_holdsTest_10 rfl ?_
        refine wp_aload_n d_Mo_holdsTest_12 rfl rfl rfl ?_
        refine gM_21 rfl d_Mo_holdsTest_13 ?_
        refine wp_iload_n d_Mo_holdsTest_16 rfl rfl ?_
        refine lM_21 d_Mo_holdsTest_17 (vp_in_nI (by omega) (by decide)) ?_
        refine wp_icmp_ge (t := 243) d_Mo_holdsTest_18 (by decide) (fun c_18 => absurd c_18 (by rw [e21']; exact nI_ge (by omega) (by omega))) (fun c_18 => ?_)
        refine wp_aload_n d_Mo_holdsTest_21 rfl rfl rfl ?_
        refine gM_22 rfl d_Mo_holdsTest_22 ?_
        refine wp_iload d_Mo_holdsTest_25 rfl ?_
        refine lM_22 d_Mo_holdsTest_27 (vp_in_nI (by omega) (by decide)) ?_
        rw [e22']
        refine wp_istore (ls' := [_, _, _, _, _, _, _, _]) d_Mo_holdsTest_28 (by decide) rfl ?_
        refine wp_iload d_Mo_holdsTest_30 rfl ?_
        refine wp_bipush (v := (-33)) d_Mo_holdsTest_32 (by decide) ?_
        refine wp_icmp_ne (t := 64) d_Mo_holdsTest_34 (by decide) (fun c_34 => absurd rfl c_34) (fun c_34 => ?_)
        refine wp_aload_n d_Mo_holdsTest_37 rfl rfl rfl ?_
        refine gM_28 rfl d_Mo_holdsTest_38 ?_
        refine wp_iload_n d_Mo_holdsTest_41 rfl rfl ?_
        refine wp_iconst (v := 1) d_Mo_holdsTest_42 rfl ?_
        refine wp_isub d_Mo_holdsTest_43 ?_
        rw [em]
        refine wp_aload_n d_Mo_holdsTest_44 rfl rfl rfl ?_
        refine gM_28 rfl d_Mo_holdsTest_45 ?_
        refine wp_iload_n d_Mo_holdsTest_48 rfl rfl ?_
        refine wp_iconst (v := 1) d_Mo_holdsTest_49 rfl ?_
        refine wp_isub d_Mo_holdsTest_50 ?_
        rw [em]
        refine lM_28 d_Mo_holdsTest_51 (vp_in_nI (by omega) (by decide)) ?_
        rw [hx]
        refine wp_if_ne (t := 59) d_Mo_holdsTest_52 (by decide) (fun c_52 => ?_) (fun c_52 => ?_)
        · skip
          refine wp_iconst (v := 0) d_Mo_holdsTest_59 rfl ?_
          refine sM_28 d_Mo_holdsTest_60 (vp_in_nI (by omega) (by decide)) ?_
          refine wp_goto (t := 237) d_Mo_holdsTest_61 (by decide) ?_
          refine wp_iinc (v := _ + 1) (ls' := [_, _, _, _, _, _, _, _]) d_Mo_holdsTest_237 (by decide) rfl rfl rfl ?_
          refine wp_goto (t := 10) d_Mo_holdsTest_240 (by decide) ?_
          rw [en, bx_uu, nI_clamp (by omega)]
          refine wp_less (ls' := [some (.ref X.length), some (.int (nI (b + j))), some (.int (nI m)), some (.int (nI (s.length + 1))), some (.int (nI (fr + (i + 1)))), none, none, none]) (by simp [px_leb]) ?_
          refine ih (i + 1) ((!x) :: s) _ hc' (hpl.2.push ?_) hdp2 (by simp; omega) (by omega) hq
          first
            | (rw [bI_0] at c_52; rw [c_52]; rfl)
            | (cases x; exact absurd rfl c_52; rfl)
        · skip
          refine wp_iconst (v := 1) d_Mo_holdsTest_55 rfl ?_
          refine wp_goto (t := 60) d_Mo_holdsTest_56 (by decide) ?_
          refine sM_28 d_Mo_holdsTest_60 (vp_in_nI (by omega) (by decide)) ?_
          refine wp_goto (t := 237) d_Mo_holdsTest_61 (by decide) ?_
          refine wp_iinc (v := _ + 1) (ls' := [_, _, _, _, _, _, _, _]) d_Mo_holdsTest_237 (by decide) rfl rfl rfl ?_
          refine wp_goto (t := 10) d_Mo_holdsTest_240 (by decide) ?_
          rw [en, bx_uu, nI_clamp (by omega)]
          refine wp_less (ls' := [some (.ref X.length), some (.int (nI (b + j))), some (.int (nI m)), some (.int (nI (s.length + 1))), some (.int (nI (fr + (i + 1)))), none, none, none]) (by simp [px_leb]) ?_
          refine ih (i + 1) ((!x) :: s) _ hc' (hpl.2.push ?_) hdp2 (by simp; omega) (by omega) hq
          first
            | (rw [bI_0] at c_52; rw [c_52]; rfl)
            | (cases x; exact absurd rfl c_52; rfl)
      · obtain ⟨hs2, hdp2⟩ := sp_dp_b (by omega) hdp
        obtain ⟨y, x, s, rfl⟩ : ∃ y x s', s = y :: x :: s' := by
          match s, hs2 with
          | y :: x :: s, _ => exact ⟨y, x, s, rfl⟩
        have hsz : s.length + 1 + 1 + (ts.length + 1) ≤ 100 := hsz
        have hdp2 : sp_dp ts (s.length + 1) = some 1 := hdp2
        have em : nI (y :: x :: s).length + -1 = nI (s.length + 1) := pk_m1 (s.length + 1)
        have em2 : nI (s.length + 1) - 1 = nI s.length := nI_pred s.length
        have hx : va_up A 28 f 28 (nI s.length).toNatClampNeg = bI x := by rw [nI_clamp (by omega)]; exact hpl.2.1
        have hy : va_up A 28 f 28 (nI (s.length + 1)).toNatClampNeg = bI y := by rw [nI_clamp (by omega)]; exact hpl.1
        rcases (show t = 6001 ∨ t = 6002 by omega) with rfl | rfl
        · rw [show mo_enc 6001 = -38 from rfl] at e22'
          rw [sp_top_a] at hq
          refine wp_iload d_Mo_holdsTest_10 rfl ?_
          refine wp_aload_n d_Mo_holdsTest_12 rfl rfl rfl ?_
          refine gM_21 rfl d_Mo_holdsTest_13 ?_
          refine wp_iload_n d_Mo_holdsTest_16 rfl rfl ?_
          refine lM_21 d_Mo_holdsTest_17 (vp_in_nI (by omega) (by decide)) ?_
          refine wp_icmp_ge (t := 243) d_Mo_holdsTest_18 (by decide) (fun c_18 => absurd c_18 (by rw [e21']; exact nI_ge (by omega) (by omega))) (fun c_18 => ?_)
          refine wp_aload_n d_Mo_holdsTest_21 rfl rfl rfl ?_
          refine gM_22 rfl d_Mo_holdsTest_22 ?_
          refine wp_iload d_Mo_holdsTest_25 rfl ?_
          refine lM_22 d_Mo_holdsTest_27 (vp_in_nI (by omega) (by decide)) ?_
          rw [e22']
          refine wp_istore (ls' := [_, _, _, _, _, _, _, _]) d_Mo_holdsTest_28 (by decide) rfl ?_
          refine wp_iload d_Mo_holdsTest_30 rfl ?_
          refine wp_bipush (v := (-33)) d_Mo_holdsTest_32 (by decide) ?_
          refine wp_icmp_ne (t := 64) d_Mo_holdsTest_34 (by decide) (fun c_34 => ?_) (fun c_34 => absurd c_34 (by decide))
          refine wp_iload d_Mo_holdsTest_64 rfl ?_
          refine wp_if_ge (t := 143) d_Mo_holdsTest_66 (by decide) (fun c_66 => absurd c_66 (by decide)) (fun c_66 => ?_)
          refine wp_iinc (v := _ + (-1)) (ls' := [_, _, _, _, _, _, _, _]) d_Mo_holdsTest_69 (by decide) rfl rfl rfl ?_
          rw [em]
          refine wp_aload_n d_Mo_holdsTest_72 rfl rfl rfl ?_
          refine gM_28 rfl d_Mo_holdsTest_73 ?_
          refine wp_iload_n d_Mo_holdsTest_76 rfl rfl ?_
          refine wp_iconst (v := 1) d_Mo_holdsTest_77 rfl ?_
          refine wp_isub d_Mo_holdsTest_78 ?_
          rw [em2]
          refine wp_iload d_Mo_holdsTest_79 rfl ?_
          refine wp_bipush (v := (-38)) d_Mo_holdsTest_81 (by decide) ?_
          refine wp_icmp_ne (t := 114) d_Mo_holdsTest_83 (by decide) (fun c_83 => absurd rfl c_83) (fun c_83 => ?_)
          refine wp_aload_n d_Mo_holdsTest_86 rfl rfl rfl ?_
          refine gM_28 rfl d_Mo_holdsTest_87 ?_
          refine wp_iload_n d_Mo_holdsTest_90 rfl rfl ?_
          refine wp_iconst (v := 1) d_Mo_holdsTest_91 rfl ?_
          refine wp_isub d_Mo_holdsTest_92 ?_
          rw [em2]
          refine lM_28 d_Mo_holdsTest_93 (vp_in_nI (by omega) (by decide)) ?_
          rw [hx]
          refine wp_if_eq (t := 110) d_Mo_holdsTest_94 (by decide) (fun c_94 => ?_) (fun c_94 => ?_)
          · skip
            refine wp_iconst (v := 0) d_Mo_holdsTest_110 rfl ?_
            refine wp_goto (t := 139) d_Mo_holdsTest_111 (by decide) ?_
            refine sM_28 d_Mo_holdsTest_139 (vp_in_nI (by omega) (by decide)) ?_
            refine wp_goto (t := 237) d_Mo_holdsTest_140 (by decide) ?_
            refine wp_iinc (v := _ + 1) (ls' := [_, _, _, _, _, _, _, _]) d_Mo_holdsTest_237 (by decide) rfl rfl rfl ?_
            refine wp_goto (t := 10) d_Mo_holdsTest_240 (by decide) ?_
            rw [en, bx_uu, nI_clamp (by omega)]
            refine wp_less (ls' := [some (.ref X.length), some (.int (nI (b + j))), some (.int (nI m)), some (.int (nI (s.length + 1))), some (.int (nI (fr + (i + 1)))), none, none, none]) (by simp [px_leb]) ?_
            refine ih (i + 1) ((x && y) :: s) _ hc' (hpl.2.2.push ?_) hdp2 (by simp; omega) (by omega) hq
            cases x <;> cases y <;> first | rfl | exact absurd rfl c_94 | exact absurd rfl c_103 | exact absurd rfl c_122 | exact absurd rfl c_131 | exact absurd c_94 (by decide) | exact absurd c_103 (by decide) | exact absurd c_122 (by decide) | exact absurd c_131 (by decide)
          · skip
            refine wp_aload_n d_Mo_holdsTest_97 rfl rfl rfl ?_
            refine gM_28 rfl d_Mo_holdsTest_98 ?_
            refine wp_iload_n d_Mo_holdsTest_101 rfl rfl ?_
            refine lM_28 d_Mo_holdsTest_102 (vp_in_nI (by omega) (by decide)) ?_
            rw [hy]
            refine wp_if_eq (t := 110) d_Mo_holdsTest_103 (by decide) (fun c_103 => ?_) (fun c_103 => ?_)
            · skip
              refine wp_iconst (v := 0) d_Mo_holdsTest_110 rfl ?_
              refine wp_goto (t := 139) d_Mo_holdsTest_111 (by decide) ?_
              refine sM_28 d_Mo_holdsTest_139 (vp_in_nI (by omega) (by decide)) ?_
              refine wp_goto (t := 237) d_Mo_holdsTest_140 (by decide) ?_
              refine wp_iinc (v := _ + 1) (ls' := [_, _, _, _, _, _, _, _]) d_Mo_holdsTest_237 (by decide) rfl rfl rfl ?_
              refine wp_goto (t := 10) d_Mo_holdsTest_240 (by decide) ?_
              rw [en, bx_uu, nI_clamp (by omega)]
              refine wp_less (ls' := [some (.ref X.length), some (.int (nI (b + j))), some (.int (nI m)), some (.int (nI (s.length + 1))), some (.int (nI (fr + (i + 1)))), none, none, none]) (by simp [px_leb]) ?_
              refine ih (i + 1) ((x && y) :: s) _ hc' (hpl.2.2.push ?_) hdp2 (by simp; omega) (by omega) hq
              cases x <;> cases y <;> first | rfl | exact absurd rfl c_94 | exact absurd rfl c_103 | exact absurd rfl c_122 | exact absurd rfl c_131 | exact absurd c_94 (by decide) | exact absurd c_103 (by decide) | exact absurd c_122 (by decide) | exact absurd c_131 (by decide)
            · skip
              refine wp_iconst (v := 1) d_Mo_holdsTest_106 rfl ?_
              refine wp_goto (t := 139) d_Mo_holdsTest_107 (by decide) ?_
              refine sM_28 d_Mo_holdsTest_139 (vp_in_nI (by omega) (by decide)) ?_
              refine wp_goto (t := 237) d_Mo_holdsTest_140 (by decide) ?_
              refine wp_iinc (v := _ + 1) (ls' := [_, _, _, _, _, _, _, _]) d_Mo_holdsTest_237 (by decide) rfl rfl rfl ?_
              refine wp_goto (t := 10) d_Mo_holdsTest_240 (by decide) ?_
              rw [en, bx_uu, nI_clamp (by omega)]
              refine wp_less (ls' := [some (.ref X.length), some (.int (nI (b + j))), some (.int (nI m)), some (.int (nI (s.length + 1))), some (.int (nI (fr + (i + 1)))), none, none, none]) (by simp [px_leb]) ?_
              refine ih (i + 1) ((x && y) :: s) _ hc' (hpl.2.2.push ?_) hdp2 (by simp; omega) (by omega) hq
              cases x <;> cases y <;> first | rfl | exact absurd rfl c_94 | exact absurd rfl c_103 | exact absurd rfl c_122 | exact absurd rfl c_131 | exact absurd c_94 (by decide) | exact absurd c_103 (by decide) | exact absurd c_122 (by decide) | exact absurd c_131 (by decide)
        · rw [show mo_enc 6002 = -124 from rfl] at e22'
          rw [sp_top_o] at hq
          refine wp_iload d_Mo_holdsTest_10 rfl ?_
          refine wp_aload_n d_Mo_holdsTest_12 rfl rfl rfl ?_
          refine gM_21 rfl d_Mo_holdsTest_13 ?_
          refine wp_iload_n d_Mo_holdsTest_16 rfl rfl ?_
          refine lM_21 d_Mo_holdsTest_17 (vp_in_nI (by omega) (by decide)) ?_
          refine wp_icmp_ge (t := 243) d_Mo_holdsTest_18 (by decide) (fun c_18 => absurd c_18 (by rw [e21']; exact nI_ge (by omega) (by omega))) (fun c_18 => ?_)
          refine wp_aload_n d_Mo_holdsTest_21 rfl rfl rfl ?_
          refine gM_22 rfl d_Mo_holdsTest_22 ?_
          refine wp_iload d_Mo_holdsTest_25 rfl ?_
          refine lM_22 d_Mo_holdsTest_27 (vp_in_nI (by omega) (by decide)) ?_
          rw [e22']
          refine wp_istore (ls' := [_, _, _, _, _, _, _, _]) d_Mo_holdsTest_28 (by decide) rfl ?_
          refine wp_iload d_Mo_holdsTest_30 rfl ?_
          refine wp_bipush (v := (-33)) d_Mo_holdsTest_32 (by decide) ?_
          refine wp_icmp_ne (t := 64) d_Mo_holdsTest_34 (by decide) (fun c_34 => ?_) (fun c_34 => absurd c_34 (by decide))
          refine wp_iload d_Mo_holdsTest_64 rfl ?_
          refine wp_if_ge (t := 143) d_Mo_holdsTest_66 (by decide) (fun c_66 => absurd c_66 (by decide)) (fun c_66 => ?_)
          refine wp_iinc (v := _ + (-1)) (ls' := [_, _, _, _, _, _, _, _]) d_Mo_holdsTest_69 (by decide) rfl rfl rfl ?_
          rw [em]
          refine wp_aload_n d_Mo_holdsTest_72 rfl rfl rfl ?_
          refine gM_28 rfl d_Mo_holdsTest_73 ?_
          refine wp_iload_n d_Mo_holdsTest_76 rfl rfl ?_
          refine wp_iconst (v := 1) d_Mo_holdsTest_77 rfl ?_
          refine wp_isub d_Mo_holdsTest_78 ?_
          rw [em2]
          refine wp_iload d_Mo_holdsTest_79 rfl ?_
          refine wp_bipush (v := (-38)) d_Mo_holdsTest_81 (by decide) ?_
          refine wp_icmp_ne (t := 114) d_Mo_holdsTest_83 (by decide) (fun c_83 => ?_) (fun c_83 => absurd c_83 (by decide))
          refine wp_aload_n d_Mo_holdsTest_114 rfl rfl rfl ?_
          refine gM_28 rfl d_Mo_holdsTest_115 ?_
          refine wp_iload_n d_Mo_holdsTest_118 rfl rfl ?_
          refine wp_iconst (v := 1) d_Mo_holdsTest_119 rfl ?_
          refine wp_isub d_Mo_holdsTest_120 ?_
          rw [em2]
          refine lM_28 d_Mo_holdsTest_121 (vp_in_nI (by omega) (by decide)) ?_
          rw [hx]
          refine wp_if_ne (t := 134) d_Mo_holdsTest_122 (by decide) (fun c_122 => ?_) (fun c_122 => ?_)
          · skip
            refine wp_iconst (v := 1) d_Mo_holdsTest_134 rfl ?_
            refine wp_goto (t := 139) d_Mo_holdsTest_135 (by decide) ?_
            refine sM_28 d_Mo_holdsTest_139 (vp_in_nI (by omega) (by decide)) ?_
            refine wp_goto (t := 237) d_Mo_holdsTest_140 (by decide) ?_
            refine wp_iinc (v := _ + 1) (ls' := [_, _, _, _, _, _, _, _]) d_Mo_holdsTest_237 (by decide) rfl rfl rfl ?_
            refine wp_goto (t := 10) d_Mo_holdsTest_240 (by decide) ?_
            rw [en, bx_uu, nI_clamp (by omega)]
            refine wp_less (ls' := [some (.ref X.length), some (.int (nI (b + j))), some (.int (nI m)), some (.int (nI (s.length + 1))), some (.int (nI (fr + (i + 1)))), none, none, none]) (by simp [px_leb]) ?_
            refine ih (i + 1) ((x || y) :: s) _ hc' (hpl.2.2.push ?_) hdp2 (by simp; omega) (by omega) hq
            cases x <;> cases y <;> first | rfl | exact absurd rfl c_94 | exact absurd rfl c_103 | exact absurd rfl c_122 | exact absurd rfl c_131 | exact absurd c_94 (by decide) | exact absurd c_103 (by decide) | exact absurd c_122 (by decide) | exact absurd c_131 (by decide)
          · skip
            refine wp_aload_n d_Mo_holdsTest_125 rfl rfl rfl ?_
            refine gM_28 rfl d_Mo_holdsTest_126 ?_
            refine wp_iload_n d_Mo_holdsTest_129 rfl rfl ?_
            refine lM_28 d_Mo_holdsTest_130 (vp_in_nI (by omega) (by decide)) ?_
            rw [hy]
            refine wp_if_eq (t := 138) d_Mo_holdsTest_131 (by decide) (fun c_131 => ?_) (fun c_131 => ?_)
            · skip
              refine wp_iconst (v := 0) d_Mo_holdsTest_138 rfl ?_
              refine sM_28 d_Mo_holdsTest_139 (vp_in_nI (by omega) (by decide)) ?_
              refine wp_goto (t := 237) d_Mo_holdsTest_140 (by decide) ?_
              refine wp_iinc (v := _ + 1) (ls' := [_, _, _, _, _, _, _, _]) d_Mo_holdsTest_237 (by decide) rfl rfl rfl ?_
              refine wp_goto (t := 10) d_Mo_holdsTest_240 (by decide) ?_
              rw [en, bx_uu, nI_clamp (by omega)]
              refine wp_less (ls' := [some (.ref X.length), some (.int (nI (b + j))), some (.int (nI m)), some (.int (nI (s.length + 1))), some (.int (nI (fr + (i + 1)))), none, none, none]) (by simp [px_leb]) ?_
              refine ih (i + 1) ((x || y) :: s) _ hc' (hpl.2.2.push ?_) hdp2 (by simp; omega) (by omega) hq
              cases x <;> cases y <;> first | rfl | exact absurd rfl c_94 | exact absurd rfl c_103 | exact absurd rfl c_122 | exact absurd rfl c_131 | exact absurd c_94 (by decide) | exact absurd c_103 (by decide) | exact absurd c_122 (by decide) | exact absurd c_131 (by decide)
            · skip
              refine wp_iconst (v := 1) d_Mo_holdsTest_134 rfl ?_
              refine wp_goto (t := 139) d_Mo_holdsTest_135 (by decide) ?_
              refine sM_28 d_Mo_holdsTest_139 (vp_in_nI (by omega) (by decide)) ?_
              refine wp_goto (t := 237) d_Mo_holdsTest_140 (by decide) ?_
              refine wp_iinc (v := _ + 1) (ls' := [_, _, _, _, _, _, _, _]) d_Mo_holdsTest_237 (by decide) rfl rfl rfl ?_
              refine wp_goto (t := 10) d_Mo_holdsTest_240 (by decide) ?_
              rw [en, bx_uu, nI_clamp (by omega)]
              refine wp_less (ls' := [some (.ref X.length), some (.int (nI (b + j))), some (.int (nI m)), some (.int (nI (s.length + 1))), some (.int (nI (fr + (i + 1)))), none, none, none]) (by simp [px_leb]) ?_
              refine ih (i + 1) ((x || y) :: s) _ hc' (hpl.2.2.push ?_) hdp2 (by simp; omega) (by omega) hq
              cases x <;> cases y <;> first | rfl | exact absurd rfl c_94 | exact absurd rfl c_103 | exact absurd rfl c_122 | exact absurd rfl c_131 | exact absurd c_94 (by decide) | exact absurd c_103 (by decide) | exact absurd c_122 (by decide) | exact absurd c_131 (by decide)
end MO3
