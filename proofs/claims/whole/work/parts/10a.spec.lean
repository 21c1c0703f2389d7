/-! WHAT BOTH SIDES COMPUTE, as plain functions -/
/-- a code: a test 1000 f + 100 s + n below 6000; 6000 not, 6001 and, 6002 or -/
def sp_ev (fact : Nat → Int32) : List Nat → List Bool → Option (List Bool)
  | [], s => some s
  | t :: ts, s =>
    if t < 6000 then sp_ev fact ts ((if t / 100 % 10 = 0 then decide (fact (t / 1000) < nI (t % 100)) else if t / 100 % 10 = 1 then decide (fact (t / 1000) = nI (t % 100)) else decide (nI (t % 100) < fact (t / 1000))) :: s)
    else if t = 6000 then (match s with
      | b :: s => sp_ev fact ts ((!b) :: s)
      | [] => none)
    else (match s with
      | b :: a :: s => sp_ev fact ts ((if t = 6001 then a && b else a || b) :: s)
      | _ => none)
/-- the depth alone -/
def sp_dp : List Nat → Nat → Option Nat
  | [], n => some n
  | t :: ts, n =>
    if t < 6000 then sp_dp ts (n + 1)
    else if t = 6000 then (if 1 ≤ n then sp_dp ts n else none)
    else (if 2 ≤ n then sp_dp ts (n - 1) else none)
/-- word (0 slow, 1 quick, 2 rise, 3 rest, 4 pull), number, codes -/
abbrev sp_Cl : Type := Nat × Nat × List Nat
def sp_tr (fact : Nat → Int32) (ts : List Nat) : Bool := match sp_ev fact ts [] with
  | some (b :: _) => b
  | _ => false
def sp_add (fact : Nat → Int32) (s : Int32) (c : sp_Cl) : Int32 := if c.1 ≤ 1 ∧ sp_tr fact c.2.2 = true then (if c.1 = 0 then s + nI c.2.1 else s + -nI c.2.1) else s
def sp_one (n : Int32) : Int32 := if n < 1 then 1 else n
def sp_pace (fact : Nat → Int32) (cl : List sp_Cl) : Int32 := sp_one (cl.foldl (sp_add fact) 8)
/-- the last number of a word -/
def sp_last (w : Nat) (cl : List sp_Cl) (n : Int32) : Int32 := cl.foldl (fun n c => if c.1 = w then nI c.2.1 else n) n
def sp_rise (cl : List sp_Cl) : Int32 := sp_last 2 cl 5
def sp_rest (cl : List sp_Cl) : Int32 := sp_last 3 cl 3
def sp_pull (cl : List sp_Cl) : Int32 := sp_one (sp_last 4 cl 40)
/-- the facts of man m at place p -/
def sp_fact (kind v held : Nat → Int32) (m p : Nat) (f : Nat) : Int32 :=
  if f = 0 then nI m else if f = 1 then kind m else if f = 2 then nI p else if f = 3 then held m - held m / 10 * 10
  else if f = 4 then (if 99 < held m / 10 then 99 else held m / 10) else v m
/-- HOLDS out of PACE -/
def sp_strong (v n : Int32) : Int32 := sp_one (n - v / 2)
def sp_holds (kind v h row n : Int32) : Int32 :=
  if kind = 1 then sp_strong v n else if kind = 2 ∨ kind = 5 then n + 2 else if kind = 3 then n + h / 8
  else if kind = 4 then sp_one (sp_strong v n / 2) else if kind = 6 then n + h / 8 + row else n
/-- what stays of the chain: men's kinds, v, rows; the line and its length; the clauses -/
abbrev sp_St : Type := (Nat → Int32) × (Nat → Int32) × (Nat → Int32) × (Nat → Nat) × Nat × List sp_Cl
/-- HOLDS of whom stands at place p -/
def sp_hold (s : sp_St) (held : Nat → Int32) (p : Nat) : Int32 :=
  sp_holds (s.1 (s.2.2.2.1 p)) (s.2.1 (s.2.2.2.1 p)) (held (s.2.2.2.1 p)) (s.2.2.1 (4 * s.2.2.2.1 p + (held (s.2.2.2.1 p)).toNatClampNeg % 4)) (sp_pace (sp_fact s.1 s.2.1 held (s.2.2.2.1 p) p) s.2.2.2.2.2)
/-- one more, c at most -/
def sp_inc (c h : Int32) : Int32 := if h < c then h + 1 else c
/-- a tube at place p at t, q places to go, HELD is c at most: who lets it fall (none: it is up, at the time), HELD, FREE then -/
def sp_go (s : sp_St) (c : Int32) : Nat → Nat → Int32 → (Nat → Int32) → (Nat → Int32) → (Option Nat) × Int32 × (Nat → Int32) × (Nat → Int32)
  | 0, _, t, held, free => (none, t, held, free)
  | q + 1, p, t, held, free =>
    if t < free (s.2.2.2.1 p) then (some (s.2.2.2.1 p), t, held, free)
    else if s.1 (s.2.2.2.1 p) = 5 ∧ (held (s.2.2.2.1 p) + 1) - (held (s.2.2.2.1 p) + 1) / (s.2.1 (s.2.2.2.1 p) + 2) * (s.2.1 (s.2.2.2.1 p) + 2) = 0 then (some (s.2.2.2.1 p), t, upd held (s.2.2.2.1 p) (sp_inc c (held (s.2.2.2.1 p))), free)
    else sp_go s c q (p + 1) (t + (sp_hold s held p + sp_rise s.2.2.2.2.2)) (upd held (s.2.2.2.1 p) (sp_inc c (held (s.2.2.2.1 p)))) (upd free (s.2.2.2.1 p) (t + sp_hold s held p + sp_rest s.2.2.2.2.2))
theorem sp_go_f {s : sp_St} {c : Int32} {q p : Nat} {t : Int32} {held free : Nat → Int32} (h : t < free (s.2.2.2.1 p)) : sp_go s c (q + 1) p t held free = (some (s.2.2.2.1 p), t, held, free) := if_pos h
theorem sp_go_l {s : sp_St} {c : Int32} {q p : Nat} {t : Int32} {held free : Nat → Int32} (h : ¬ t < free (s.2.2.2.1 p)) (h2 : s.1 (s.2.2.2.1 p) = 5 ∧ (held (s.2.2.2.1 p) + 1) - (held (s.2.2.2.1 p) + 1) / (s.2.1 (s.2.2.2.1 p) + 2) * (s.2.1 (s.2.2.2.1 p) + 2) = 0) : sp_go s c (q + 1) p t held free = (some (s.2.2.2.1 p), t, upd held (s.2.2.2.1 p) (sp_inc c (held (s.2.2.2.1 p))), free) := (if_neg h).trans (if_pos h2)
theorem sp_go_s {s : sp_St} {c : Int32} {q p : Nat} {t : Int32} {held free : Nat → Int32} (h : ¬ t < free (s.2.2.2.1 p)) (h2 : ¬ (s.1 (s.2.2.2.1 p) = 5 ∧ (held (s.2.2.2.1 p) + 1) - (held (s.2.2.2.1 p) + 1) / (s.2.1 (s.2.2.2.1 p) + 2) * (s.2.1 (s.2.2.2.1 p) + 2) = 0)) : sp_go s c (q + 1) p t held free = sp_go s c q (p + 1) (t + (sp_hold s held p + sp_rise s.2.2.2.2.2)) (upd held (s.2.2.2.1 p) (sp_inc c (held (s.2.2.2.1 p)))) (upd free (s.2.2.2.1 p) (t + sp_hold s held p + sp_rest s.2.2.2.2.2)) := (if_neg h).trans (if_neg h2)
/-- a throw at a tenth -/
def sp_throw (s : sp_St) (c tenth : Int32) (held free : Nat → Int32) : (Option Nat) × Int32 × (Nat → Int32) × (Nat → Int32) := sp_go s c s.2.2.2.2.1 0 (tenth + sp_rise s.2.2.2.2.2) held free
