theorem sp_tst_x {f g : Nat → Int32} {t : Nat} (h : ∀ i, i < 6 → f i = g i) (ht : t < 6000) : sp_tst f t = sp_tst g t := by
  unfold sp_tst
  rw [h (t / 1000) (by omega)]
theorem min99 {y : Int32} : (if y < 99 then y else 99) = (if 99 < y then 99 else y) := by
  by_cases h : y < 99
  · rw [if_pos h, if_neg (Int32.not_lt.mpr (Int32.le_of_lt h))]
  · rw [if_neg h]
    by_cases h2 : 99 < y
    · rw [if_pos h2]
    · rw [if_neg h2]
      exact Int32.le_antisymm (Int32.not_lt.mp h) (Int32.not_lt.mp h2)
theorem px_ss {h : px_H} {a : Nat} {x y : px_E} : (h.set a x).set a y = h.set a y := by simp
theorem sp_tr_top (fact : Nat → Int32) (l : List Nat) : sp_tr fact l = sp_top fact l [] := rfl
section TCT
variable {G : px_G} {D : Nat} {h : px_H} {Q : Option Value → px_H → Prop}
theorem rp_l {c tt : Nat} {n0 a0 a1 ri re pu : Int32} {m p hh N : Nat} {acc : Int32} {cc vv fact : Nat → Int32} (hD : 1 ≤ D) (he0 : h[c]? = some (.inr (3, (SCF c tt n0 a0 a1 ri re pu)))) (hn0 : n0 = nI N) (hN : N ≤ 100) (he1 : h[c + 1]? = some (iA 100 cc)) (he2 : h[c + 2]? = some (iA 6 vv)) (hv : ∀ f, f < 6 → vv f = fact f) : ∀ (l : List Nat) (s : List Bool) (i : Nat), sp_okd 11 l s.length → sp_dp l s.length = some 1 → (∀ t, t ∈ l → tc_wf t) → (∀ q t, l[q]? = some t → cc (i + q) = tc_enc t) → i + l.length ≤ N → px_W G D 0 0 m_Sc_reckonPace 72 [some (.ref c), some (.ref m), some (.int (nI p)), some (.int (nI hh)), some (.int acc), some (.int (nI (be [sp_top fact l s]))), some (.int (nI (i + l.length))), none, none] [] h Q → px_W G D 0 0 m_Sc_reckonPace 72 [some (.ref c), some (.ref m), some (.int (nI p)), some (.int (nI hh)), some (.int acc), some (.int (nI (be s))), some (.int (nI i)), none, none] [] h Q := by
  intro l
  induction l with
  | nil =>
    intro s i hok hdp hwf hcc hil k
    have h1 : s.length = 1 := Option.some.inj hdp
    match s, h1 with
    | [b], _ => exact k
  | cons t l ih =>
    intro s i hok hdp hwf hcc hil k
    have hlen : (t :: l).length = l.length + 1 := rfl
    rw [hlen] at hil k
    obtain ⟨hz, hok⟩ := hok
    obtain ⟨hw1, hw2⟩ := hwf t List.mem_cons_self
    have hc0 := hcc 0 t rfl
    rw [Nat.add_zero] at hc0
    have hcc' : ∀ q t', l[q]? = some t' → cc (i + 1 + q) = tc_enc t' := fun q t' hq => by
      have := hcc (q + 1) t' hq
      rw [show i + (q + 1) = i + 1 + q from by omega] at this
      exact this
    have hwf' : ∀ t', t' ∈ l → tc_wf t' := fun t' ht => hwf t' (List.mem_cons_of_mem _ ht)
    rw [show i + (l.length + 1) = i + 1 + l.length from by omega] at k
    by_cases ht : t < 6000
    · rw [if_pos ht] at hok
      have hdp := sp_dp_t ht hdp
      rw [tc_enc, if_pos ht] at hc0
      rw [sp_top_t ht, ← sp_tst_x hv ht] at k
      exact rp_t hD he0 hn0 hN he1 he2 (by omega) hc0 ht (hw2 ht) hz (ih (sp_tst vv t :: s) (i + 1) hok hdp hwf' hcc' (by omega) k)
    · rw [if_neg ht] at hok
      rw [tc_enc, if_neg ht] at hc0
      by_cases h6 : t = 6000
      · subst h6
        rw [if_pos rfl] at hok hc0
        obtain ⟨hd1, hdp⟩ := sp_dp_n hdp
        match s, hd1 with
        | b :: s, _ =>
          rw [sp_top_n] at k
          exact rp_n hD he0 hn0 hN he1 he2 (by omega) hc0 (by have : (b :: s).length = s.length + 1 := rfl; omega) (ih ((!b) :: s) (i + 1) hok hdp hwf' hcc' (by omega) k)
      · rw [if_neg h6] at hok hc0
        obtain ⟨hd1, hdp⟩ := sp_dp_b (by omega) hdp
        match s, hd1 with
        | b :: a :: s, _ =>
          have hl2 : (b :: a :: s).length = s.length + 2 := rfl
          by_cases h61 : t = 6001
          · subst h61
            rw [if_pos rfl] at hc0
            rw [sp_top_a] at k
            exact rp_a hD he0 hn0 hN he1 he2 (by omega) hc0 (by omega) (ih ((a && b) :: s) (i + 1) hok hdp hwf' hcc' (by omega) k)
          · have h62 : t = 6002 := by omega
            subst h62
            rw [if_neg h61] at hc0
            rw [sp_top_o] at k
            exact rp_o hD he0 hn0 hN he1 he2 (by omega) hc0 (by omega) (ih ((a || b) :: s) (i + 1) hok hdp hwf' hcc' (by omega) k)
theorem be_a0 {acc x : Int32} : (acc + if false = true then x else 0) = acc := Int32.add_zero acc
set_option maxRecDepth 4000 in
theorem rp_c {c tt : Nat} {n0 a0 a1 ri re pu : Int32} {m p hh N : Nat} {cc vv fact : Nat → Int32} (hD : 1 ≤ D) (he0 : h[c]? = some (.inr (3, (SCF c tt n0 a0 a1 ri re pu)))) (hn0 : n0 = nI N) (hN : N ≤ 100) (he1 : h[c + 1]? = some (iA 100 cc)) (he2 : h[c + 2]? = some (iA 6 vv)) (hv : ∀ f, f < 6 → vv f = fact f) : ∀ (cl : List sp_Cl) (i : Nat) (acc : Int32), (∀ x, x ∈ cl → tc_gc x) → (∀ q t, (tc_codes cl)[q]? = some t → cc (i + q) = t) → i + (tc_codes cl).length = N → Q (some (.int (sp_one (cl.foldl (sp_add fact) acc)))) h → px_W G D 0 0 m_Sc_reckonPace 72 [some (.ref c), some (.ref m), some (.int (nI p)), some (.int (nI hh)), some (.int acc), some (.int (nI 0)), some (.int (nI i)), none, none] [] h Q := by
  intro cl
  induction cl with
  | nil =>
    intro i acc hg hcc hil k
    have hil : i + 0 = N := hil
    refine wp_iload d_Sc_reckonPace_72 rfl ?_
    refine wp_aload_n d_Sc_reckonPace_74 rfl rfl rfl ?_
    refine wp_getf d_Sc_reckonPace_75 gf_Sc_51_3 he0 rfl ?_
    rw [hn0, show i = N from by simpa using hil]
    refine wp_icmp_ge (t := 222) d_Sc_reckonPace_78 (by decide) (fun c_78 => ?_) (fun c_78 => absurd (nI_le (Nat.le_refl _) (by omega)) c_78)
    refine wp_iconst (v := 1) d_Sc_reckonPace_222 rfl ?_
    refine wp_iload d_Sc_reckonPace_223 rfl ?_
    refine wp_max d_Sc_reckonPace_225 w_108 (Nat.le_of_ble_eq_true rfl) (by omega) ?_
    refine wp_ireturn d_Sc_reckonPace_228 rfl rfl ?_
    rw [sp_one_max]
    exact k
  | cons x cl ih =>
    intro i acc hg hcc hil k
    have hgx := hg x List.mem_cons_self
    have hg' : ∀ y, y ∈ cl → tc_gc y := fun y hy => hg y (List.mem_cons_of_mem _ hy)
    have k : Q (some (.int (sp_one (cl.foldl (sp_add fact) (sp_add fact acc x))))) h := k
    have hcod : tc_codes (x :: cl) = tc_cc x ++ tc_codes cl := rfl
    by_cases h1 : x.1 ≤ 1
    · have hcx : tc_cc x = x.2.2.map tc_enc ++ [tc_add x] := if_pos h1
      obtain ⟨g1, g2, g3⟩ := hgx
      obtain ⟨g3, g4, g5⟩ := g3 h1
      have hl : (tc_codes (x :: cl)).length = x.2.2.length + 1 + (tc_codes cl).length := by rw [hcod, hcx]; simp; omega
      rw [hl] at hil
      have hin : ∀ q, q < x.2.2.length + 1 → (tc_codes (x :: cl))[q]? = (x.2.2.map tc_enc ++ [tc_add x])[q]? := fun q hq => by
        rw [hcod, hcx, List.getElem?_append_left (by simp; omega)]
      refine rp_l hD he0 hn0 hN he1 he2 hv x.2.2 [] i g4 g3 g5 (fun q t hq => ?_) (by omega) ?_
      · have hq2 := (List.getElem?_eq_some_iff.mp hq).1
        apply hcc q
        rw [hin q (by omega), List.getElem?_append_left (by simp; omega), List.getElem?_map, hq]
        rfl
      · have ha : cc (i + x.2.2.length) = tc_add x := by
          apply hcc
          rw [hin _ (by omega), List.getElem?_append_right (by simp)]
          simp
        have hnx : ∀ acc2, sp_add fact acc x = acc2 → px_W G D 0 0 m_Sc_reckonPace 72 [some (.ref c), some (.ref m), some (.int (nI p)), some (.int (nI hh)), some (.int acc2), some (.int (nI 0)), some (.int (nI (i + x.2.2.length + 1))), none, none] [] h Q := fun acc2 e => by
          rw [e] at k
          refine ih (i + x.2.2.length + 1) acc2 hg' (fun q t hq => ?_) (by omega) k
          rw [show i + x.2.2.length + 1 + q = i + (x.2.2.length + 1 + q) from by omega]
          apply hcc
          rw [hcod, hcx, List.getElem?_append_right (by simp <;> omega)]
          rw [← hq]
          congr 1
          simp
        by_cases h0 : x.1 = 0
        · rw [tc_add, if_pos h0] at ha
          refine rp_s hD he0 hn0 hN he1 he2 (by omega) ha g2 (hnx _ ?_)
          unfold sp_add
          rw [sp_tr_top]
          cases hb : sp_top fact x.2.2 [] with
          | false => rw [be_a0, if_neg (fun z => by cases z.2)]
          | true => rw [if_pos ⟨h1, rfl⟩, if_pos h0, if_pos rfl]
        · rw [tc_add, if_neg h0] at ha
          refine rp_q hD he0 hn0 hN he1 he2 (by omega) ha g2 (hnx _ ?_)
          unfold sp_add
          rw [sp_tr_top]
          cases hb : sp_top fact x.2.2 [] with
          | false => rw [be_a0, if_neg (fun z => by cases z.2)]
          | true => rw [if_pos ⟨h1, rfl⟩, if_neg h0, if_pos rfl]
    · have hcx : tc_cc x = [] := if_neg h1
      rw [hcod, hcx, List.nil_append] at hil hcc
      refine ih i acc hg' hcc hil ?_
      have e : sp_add fact acc x = acc := if_neg (fun z => h1 z.1)
      rw [e] at k
      exact k
set_option maxRecDepth 4000 in
theorem c_Sc_reckonPace {c tt : Nat} {n0 a0 a1 ri re pu : Int32} {m n k0 p hh : Nat} {v : Int32} {cl : List sp_Cl} {cc vv : Nat → Int32} (hD : 4 ≤ D) (hk : k0 < 7) (he : h[m]? = some (.inr (5 + k0, [.int (nI n), .int v]))) (hgd : tc_gd cl) (he0 : h[c]? = some (.inr (3, (SCF c tt n0 a0 a1 ri re pu)))) (hn0 : n0 = nI (tc_codes cl).length) (he1 : h[c + 1]? = some (iA 100 cc)) (hcc : ∀ q t, (tc_codes cl)[q]? = some t → cc q = t) (he2 : h[c + 2]? = some (iA 6 vv)) (k : ∀ vv2, Q (some (.int (sp_pace (fc (nI k0) v (nI hh) n p) cl))) (h.set (c + 2) (iA 6 vv2))) : px_W G D 0 0 m_Sc_reckonPace 0 (px_ent 9 [.ref c, .ref m, .int (nI p), .int (nI hh)]) [] h Q := by
  have hmc : c + 2 ≠ m := fun e => by rw [← e, he2] at he; cases he
  show px_W _ _ _ _ _ _ [some (.ref c), some (.ref m), some (.int (nI p)), some (.int (nI hh)), none, none, none, none, none] [] _ _
  refine wp_aload_n d_Sc_reckonPace_0 rfl rfl rfl ?_
  refine wp_getf d_Sc_reckonPace_1 gf_Sc_15_3 he0 rfl ?_
  refine wp_iconst (v := (nI 0)) d_Sc_reckonPace_4 rfl ?_
  refine wp_aload_n d_Sc_reckonPace_5 rfl rfl rfl ?_
  refine wp_getf d_Sc_reckonPace_6 (gk_Sc_103 _ hk) he rfl ?_
  refine wp_iast d_Sc_reckonPace_9 he2 (vp_in_nI (by decide) (by decide)) rfl ?_
  rw [nI_clamp (by decide)]
  refine wp_aload_n d_Sc_reckonPace_10 rfl rfl rfl ?_
  refine wp_getf d_Sc_reckonPace_11 gf_Sc_15_3 (px_set_ne (by omega) he0) rfl ?_
  refine wp_iconst (v := (nI 1)) d_Sc_reckonPace_14 rfl ?_
  refine wp_aload_n d_Sc_reckonPace_15 rfl rfl rfl ?_
  refine v_kind_Sc rfl hk (px_set_ne hmc he) d_Sc_reckonPace_16 (Nat.le_of_ble_eq_true rfl) (by omega) ?_
  refine wp_iast d_Sc_reckonPace_19 (px_set_at he2) (vp_in_nI (by decide) (by decide)) px_ss ?_
  rw [nI_clamp (by decide)]
  refine wp_aload_n d_Sc_reckonPace_20 rfl rfl rfl ?_
  refine wp_getf d_Sc_reckonPace_21 gf_Sc_15_3 (px_set_ne (by omega) he0) rfl ?_
  refine wp_iconst (v := (nI 2)) d_Sc_reckonPace_24 rfl ?_
  refine wp_iload_n d_Sc_reckonPace_25 rfl rfl ?_
  refine wp_iast d_Sc_reckonPace_26 (px_set_at he2) (vp_in_nI (by decide) (by decide)) px_ss ?_
  rw [nI_clamp (by decide)]
  refine wp_aload_n d_Sc_reckonPace_27 rfl rfl rfl ?_
  refine wp_getf d_Sc_reckonPace_28 gf_Sc_15_3 (px_set_ne (by omega) he0) rfl ?_
  refine wp_iconst (v := (nI 3)) d_Sc_reckonPace_31 rfl ?_
  refine wp_iload_n d_Sc_reckonPace_32 rfl rfl ?_
  refine wp_bipush (v := 10) d_Sc_reckonPace_33 (by decide) ?_
  refine wp_irem d_Sc_reckonPace_35 (by decide) ?_
  refine wp_iast d_Sc_reckonPace_36 (px_set_at he2) (vp_in_nI (by decide) (by decide)) px_ss ?_
  rw [nI_clamp (by decide)]
  refine wp_aload_n d_Sc_reckonPace_37 rfl rfl rfl ?_
  refine wp_getf d_Sc_reckonPace_38 gf_Sc_15_3 (px_set_ne (by omega) he0) rfl ?_
  refine wp_iconst (v := (nI 4)) d_Sc_reckonPace_41 rfl ?_
  refine wp_bipush (v := 99) d_Sc_reckonPace_42 (by decide) ?_
  refine wp_iload_n d_Sc_reckonPace_44 rfl rfl ?_
  refine wp_bipush (v := 10) d_Sc_reckonPace_45 (by decide) ?_
  refine wp_idiv d_Sc_reckonPace_47 (by decide) ?_
  refine wp_min d_Sc_reckonPace_48 w_451 (Nat.le_of_ble_eq_true rfl) (by omega) ?_
  rw [min99]
  refine wp_iast d_Sc_reckonPace_51 (px_set_at he2) (vp_in_nI (by decide) (by decide)) px_ss ?_
  rw [nI_clamp (by decide)]
  refine wp_aload_n d_Sc_reckonPace_52 rfl rfl rfl ?_
  refine wp_getf d_Sc_reckonPace_53 gf_Sc_15_3 (px_set_ne (by omega) he0) rfl ?_
  refine wp_iconst (v := (nI 5)) d_Sc_reckonPace_56 rfl ?_
  refine wp_aload_n d_Sc_reckonPace_57 rfl rfl rfl ?_
  refine wp_getf d_Sc_reckonPace_58 (gk_Sc_115 _ hk) (px_set_ne hmc he) rfl ?_
  refine wp_iast d_Sc_reckonPace_61 (px_set_at he2) (vp_in_nI (by decide) (by decide)) px_ss ?_
  rw [nI_clamp (by decide)]
  refine wp_bipush (v := 8) d_Sc_reckonPace_62 (by decide) ?_
  refine wp_istore (ls' := [_, _, _, _, _, _, _, _, _]) d_Sc_reckonPace_64 (by decide) rfl ?_
  refine wp_iconst (v := (nI 0)) d_Sc_reckonPace_66 rfl ?_
  refine wp_istore (ls' := [_, _, _, _, _, _, _, _, _]) d_Sc_reckonPace_67 (by decide) rfl ?_
  refine wp_iconst (v := (nI 0)) d_Sc_reckonPace_69 rfl ?_
  refine wp_istore (ls' := [_, _, _, _, _, _, _, _, _]) d_Sc_reckonPace_70 (by decide) rfl ?_
  refine rp_c (vv := (upd (upd (upd (upd (upd (upd vv 0 (nI n)) 1 (nI k0)) 2 (nI p)) 3 (nI hh - nI hh / 10 * 10)) 4 (if 99 < nI hh / 10 then 99 else nI hh / 10)) 5 v)) (fact := fc (nI k0) v (nI hh) n p) (by omega) (px_set_ne (by omega) he0) hn0 hgd.2.1 (px_set_ne (by omega) he1) (px_set_at he2) (fun f hf => ?_) cl 0 8 hgd.2.2 (fun q t hq => by rw [Nat.zero_add]; exact hcc q t hq) (Nat.zero_add _) (k _)
  match f, hf with
  | 0, _ => rfl
  | 1, _ => rfl
  | 2, _ => rfl
  | 3, _ => rfl
  | 4, _ => rfl
  | 5, _ => rfl
end TCT
