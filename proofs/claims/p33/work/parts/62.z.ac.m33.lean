/-! Runs: what a line does, what a run comes to. -/
noncomputable section XM33
/-- numbers, line, inputs taken, lines done, end (-1: it goes on), how many written, what -/
abbrev rS : Type := (Nat → Int32) × Nat × Nat × Nat × Int32 × Nat × (Nat → Int32)
abbrev rNu (s : rS) : Nat → Int32 := s.1
abbrev rLn (s : rS) : Nat := s.2.1
abbrev rNx (s : rS) : Nat := s.2.2.1
abbrev rDn (s : rS) : Nat := s.2.2.2.1
abbrev rEn (s : rS) : Int32 := s.2.2.2.2.1
abbrev rOs (s : rS) : Nat := s.2.2.2.2.2.1
abbrev rOv (s : rS) : Nat → Int32 := s.2.2.2.2.2.2
/-- a program (words, fields, fields, numbers, lines), its input (how many, which), how numbers are cut, which years leap, the year -/
abbrev rP : Type := (Nat → Nat) × (Nat → Nat) × (Nat → Nat) × (Nat → Nat) × Nat × Nat × (Nat → Int32) × (Int32 → Int32) × (Int32 → Bool) × Int32
abbrev pOp (p : rP) : Nat → Nat := p.1
abbrev pLf (p : rP) : Nat → Nat := p.2.1
abbrev pRt (p : rP) : Nat → Nat := p.2.2.1
abbrev pNm (p : rP) : Nat → Nat := p.2.2.2.1
abbrev pNl (p : rP) : Nat := p.2.2.2.2.1
abbrev pNi (p : rP) : Nat := p.2.2.2.2.2.1
abbrev pIv (p : rP) : Nat → Int32 := p.2.2.2.2.2.2.1
abbrev pCut (p : rP) : Int32 → Int32 := p.2.2.2.2.2.2.2.1
abbrev pLp (p : rP) : Int32 → Bool := p.2.2.2.2.2.2.2.2.1
abbrev pYr (p : rP) : Int32 := p.2.2.2.2.2.2.2.2.2
def up1 (f : Nat → Int32) (i : Nat) (v : Int32) : Nat → Int32 := fun j => if j = i then v else f j
theorem up1_eq {f : Nat → Int32} {i : Nat} {v : Int32} : up1 f i v i = v := if_pos rfl
theorem up1_ne {f : Nat → Int32} {i j : Nat} {v : Int32} (h : j ≠ i) : up1 f i v j = f j := if_neg h
/-- behind a line that isn't stopped: the next one, numbers, inputs taken, written -/
def stG (p : rP) (s : rS) (next nx : Nat) (nu : Nat → Int32) (os : Nat) (ov : Nat → Int32) : rS := (nu, next, nx, rDn s + 1, if pNl p ≤ next then 0 else if rDn s + 1 = 150 then 2 else -1, os, ov)
/-- stopped -/
def stX (s : rS) : rS := (rNu s, rLn s, rNx s, rDn s + 1, 1, rOs s, rOv s)
def stM (p : rP) (s : rS) : rS :=
  let l := rLn s
  let f := pLf p l
  let g := pRt p l
  let go := fun next => stG p s next (rNx s) (rNu s) (rOs s) (rOv s)
  let put := fun v => stG p s (l + 1) (rNx s) (up1 (rNu s) f (pCut p v)) (rOs s) (rOv s)
  match pOp p l with
  | 0 => put (pYr p)
  | 1 => if rNx s < pNi p then stG p s (l + 1) (rNx s + 1) (up1 (rNu s) f (pCut p (pIv p (rNx s)))) (rOs s) (rOv s) else stX s
  | 2 => if rOs s < 12 then stG p s (l + 1) (rNx s) (rNu s) (rOs s + 1) (up1 (rOv s) (rOs s) (rNu s f)) else stX s
  | 3 => put (nI (pNm p l))
  | 4 => put (rNu s g)
  | 5 => put (rNu s f + rNu s g)
  | 6 => put (rNu s f - rNu s g)
  | 7 => go (if rNu s f < rNu s g then pNm p l else l + 1)
  | 8 => go (if pLp p (rNu s f) = true then pNm p l else l + 1)
  | 9 => go (pNm p l)
  | 10 => go 12
  | _ => go (if rNu s f = rNu s g then pNm p l else l + 1)
theorem stM_0 {p : rP} {s : rS} (h : pOp p (rLn s) = 0) : stM p s = stG p s (rLn s + 1) (rNx s) (up1 (rNu s) (pLf p (rLn s)) (pCut p (pYr p))) (rOs s) (rOv s) := by
  unfold stM
  dsimp only
  rw [h]
  all_goals rfl
theorem stM_1 {p : rP} {s : rS} (h : pOp p (rLn s) = 1) : stM p s = if rNx s < pNi p then stG p s (rLn s + 1) (rNx s + 1) (up1 (rNu s) (pLf p (rLn s)) (pCut p (pIv p (rNx s)))) (rOs s) (rOv s) else stX s := by
  unfold stM
  dsimp only
  rw [h]
  all_goals rfl
theorem stM_2 {p : rP} {s : rS} (h : pOp p (rLn s) = 2) : stM p s = if rOs s < 12 then stG p s (rLn s + 1) (rNx s) (rNu s) (rOs s + 1) (up1 (rOv s) (rOs s) (rNu s (pLf p (rLn s)))) else stX s := by
  unfold stM
  dsimp only
  rw [h]
  all_goals rfl
theorem stM_3 {p : rP} {s : rS} (h : pOp p (rLn s) = 3) : stM p s = stG p s (rLn s + 1) (rNx s) (up1 (rNu s) (pLf p (rLn s)) (pCut p (nI (pNm p (rLn s))))) (rOs s) (rOv s) := by
  unfold stM
  dsimp only
  rw [h]
  all_goals rfl
theorem stM_4 {p : rP} {s : rS} (h : pOp p (rLn s) = 4) : stM p s = stG p s (rLn s + 1) (rNx s) (up1 (rNu s) (pLf p (rLn s)) (pCut p (rNu s (pRt p (rLn s))))) (rOs s) (rOv s) := by
  unfold stM
  dsimp only
  rw [h]
  all_goals rfl
theorem stM_5 {p : rP} {s : rS} (h : pOp p (rLn s) = 5) : stM p s = stG p s (rLn s + 1) (rNx s) (up1 (rNu s) (pLf p (rLn s)) (pCut p (rNu s (pLf p (rLn s)) + rNu s (pRt p (rLn s))))) (rOs s) (rOv s) := by
  unfold stM
  dsimp only
  rw [h]
  all_goals rfl
theorem stM_6 {p : rP} {s : rS} (h : pOp p (rLn s) = 6) : stM p s = stG p s (rLn s + 1) (rNx s) (up1 (rNu s) (pLf p (rLn s)) (pCut p (rNu s (pLf p (rLn s)) - rNu s (pRt p (rLn s))))) (rOs s) (rOv s) := by
  unfold stM
  dsimp only
  rw [h]
  all_goals rfl
theorem stM_7 {p : rP} {s : rS} (h : pOp p (rLn s) = 7) : stM p s = stG p s (if rNu s (pLf p (rLn s)) < rNu s (pRt p (rLn s)) then pNm p (rLn s) else rLn s + 1) (rNx s) (rNu s) (rOs s) (rOv s) := by
  unfold stM
  dsimp only
  rw [h]
  all_goals rfl
theorem stM_8 {p : rP} {s : rS} (h : pOp p (rLn s) = 8) : stM p s = stG p s (if pLp p (rNu s (pLf p (rLn s))) = true then pNm p (rLn s) else rLn s + 1) (rNx s) (rNu s) (rOs s) (rOv s) := by
  unfold stM
  dsimp only
  rw [h]
  all_goals rfl
theorem stM_9 {p : rP} {s : rS} (h : pOp p (rLn s) = 9) : stM p s = stG p s (pNm p (rLn s)) (rNx s) (rNu s) (rOs s) (rOv s) := by
  unfold stM
  dsimp only
  rw [h]
  all_goals rfl
theorem stM_10 {p : rP} {s : rS} (h : pOp p (rLn s) = 10) : stM p s = stG p s (12) (rNx s) (rNu s) (rOs s) (rOv s) := by
  unfold stM
  dsimp only
  rw [h]
  all_goals rfl
theorem stM_11 {p : rP} {s : rS} (h : pOp p (rLn s) = 11) : stM p s = stG p s (if rNu s (pLf p (rLn s)) = rNu s (pRt p (rLn s)) then pNm p (rLn s) else rLn s + 1) (rNx s) (rNu s) (rOs s) (rOv s) := by
  unfold stM
  dsimp only
  rw [h]
  all_goals rfl
def runM (p : rP) : Nat → rS → rS
  | 0, s => s
  | k + 1, s => if rEn s = -1 then runM p k (stM p s) else s
/-- a run at its begin -/
def rs0 : rS := (fun _ => 0, 0, 0, 0, -1, 0, fun _ => 0)
/-- what holds as it goes -/
def rOk (p : rP) (s : rS) : Prop := (rEn s = -1 → rLn s < pNl p ∧ rDn s < 150) ∧ rNx s ≤ pNi p ∧ rOs s ≤ 12 ∧ rDn s ≤ 150
theorem stG_ok {p : rP} {s : rS} {next nx os : Nat} {nu ov : Nat → Int32} (h : rOk p s) (hr : rEn s = -1) (h1 : nx ≤ pNi p) (h2 : os ≤ 12) : rOk p (stG p s next nx nu os ov) := by
  obtain ⟨g1, g2, g3, g4⟩ := h
  obtain ⟨g5, g6⟩ := g1 hr
  refine ⟨fun z => ?_, h1, h2, show rDn s + 1 ≤ 150 by omega⟩
  have z : (if pNl p ≤ next then (0 : Int32) else if rDn s + 1 = 150 then 2 else -1) = -1 := z
  by_cases c : pNl p ≤ next
  · rw [if_pos c] at z
    exact absurd z (by decide)
  · rw [if_neg c] at z
    by_cases e : rDn s + 1 = 150
    · rw [if_pos e] at z
      exact absurd z (by decide)
    · exact ⟨show next < pNl p by omega, show rDn s + 1 < 150 by omega⟩
theorem stX_ok {p : rP} {s : rS} (h : rOk p s) (hr : rEn s = -1) : rOk p (stX s) := by
  obtain ⟨g1, g2, g3, g4⟩ := h
  obtain ⟨g5, g6⟩ := g1 hr
  exact ⟨fun z => absurd z (show ¬ ((1 : Int32) = -1) by decide), g2, g3, show rDn s + 1 ≤ 150 by omega⟩
theorem stM_ok {p : rP} {s : rS} (h : rOk p s) (hr : rEn s = -1) : rOk p (stM p s) := by
  obtain ⟨g1, g2, g3, g4⟩ := id h
  unfold stM
  dsimp only
  split
  · exact stG_ok h hr g2 g3
  · split
    · exact stG_ok h hr (by omega) g3
    · exact stX_ok h hr
  · split
    · exact stG_ok h hr g2 (by omega)
    · exact stX_ok h hr
  all_goals exact stG_ok h hr g2 g3
theorem stM_dn {p : rP} {s : rS} : rDn (stM p s) = rDn s + 1 := by
  unfold stM
  dsimp only
  split
  · rfl
  · split
    · rfl
    · rfl
  · split
    · rfl
    · rfl
  all_goals rfl
theorem run_ok {p : rP} : ∀ k s, rOk p s → rOk p (runM p k s)
  | 0, _, h => h
  | k + 1, s, h => by
    show rOk p (if rEn s = -1 then runM p k (stM p s) else s)
    by_cases c : rEn s = -1
    · rw [if_pos c]
      exact run_ok k _ (stM_ok h c)
    · rw [if_neg c]
      exact h
/-- behind 150 lines it is over -/
theorem run_end {p : rP} : ∀ k s, rOk p s → 150 ≤ rDn s + k → rEn (runM p k s) ≠ -1
  | 0, s, h, hk => fun z => by
    have := (h.1 z).2
    omega
  | k + 1, s, h, hk => by
    show rEn (if rEn s = -1 then runM p k (stM p s) else s) ≠ -1
    by_cases c : rEn s = -1
    · rw [if_pos c]
      refine run_end k _ (stM_ok h c) ?_
      rw [stM_dn]
      omega
    · rw [if_neg c]
      exact c
/-- more lines than are wanted change nothing -/
theorem run_more {p : rP} : ∀ k j s, rOk p s → 150 ≤ rDn s + k → runM p (k + j) s = runM p k s
  | 0, j, s, h, hk => by
    have c : rEn s ≠ -1 := fun z => by
      have := (h.1 z).2
      omega
    rcases j with _ | j
    · rfl
    · show (if rEn s = -1 then runM p (0 + j) (stM p s) else s) = s
      rw [if_neg c]
  | k + 1, j, s, h, hk => by
    rw [show k + 1 + j = (k + j) + 1 by omega]
    show (if rEn s = -1 then runM p (k + j) (stM p s) else s) = if rEn s = -1 then runM p k (stM p s) else s
    by_cases c : rEn s = -1
    · rw [if_pos c, if_pos c]
      refine run_more k j _ (stM_ok h c) ?_
      rw [stM_dn]
      omega
    · rw [if_neg c, if_neg c]
/-- how a run may stand: it goes on, ended, stopped, loops -/
def rEo (s : rS) : Prop := rEn s = -1 ∨ rEn s = 0 ∨ rEn s = 1 ∨ rEn s = 2
theorem stG_eo {p : rP} {s : rS} {next nx os : Nat} {nu ov : Nat → Int32} : rEo (stG p s next nx nu os ov) := by
  show (if pNl p ≤ next then (0 : Int32) else if rDn s + 1 = 150 then 2 else -1) = -1 ∨ (if pNl p ≤ next then (0 : Int32) else if rDn s + 1 = 150 then 2 else -1) = 0 ∨ (if pNl p ≤ next then (0 : Int32) else if rDn s + 1 = 150 then 2 else -1) = 1 ∨ (if pNl p ≤ next then (0 : Int32) else if rDn s + 1 = 150 then 2 else -1) = 2
  by_cases c : pNl p ≤ next
  · rw [if_pos c]
    exact Or.inr (Or.inl rfl)
  · rw [if_neg c]
    by_cases e : rDn s + 1 = 150
    · rw [if_pos e]
      exact Or.inr (Or.inr (Or.inr rfl))
    · rw [if_neg e]
      exact Or.inl rfl
theorem stM_eo {p : rP} {s : rS} : rEo (stM p s) := by
  unfold stM
  dsimp only
  split
  · exact stG_eo
  · split
    · exact stG_eo
    · exact Or.inr (Or.inr (Or.inl rfl))
  · split
    · exact stG_eo
    · exact Or.inr (Or.inr (Or.inl rfl))
  all_goals exact stG_eo
theorem rEo_ge {s : rS} (h : rEo s) (hn : rEn s ≠ -1) : ¬ rEn s < 0 := by
  rcases h with h | h | h | h
  · exact absurd h hn
  · rw [h]
    decide
  · rw [h]
    decide
  · rw [h]
    decide
theorem rEn_lt {s : rS} (h : rEn s = -1) : rEn s < 0 := by
  rw [h]
  decide
/-- where a run comes to from here -/
def rF (p : rP) (s : rS) : rS := runM p 150 s
theorem rF_end {p : rP} {s : rS} (h : rEn s ≠ -1) : rF p s = s := by
  show (if rEn s = -1 then runM p 149 (stM p s) else s) = s
  exact if_neg h
theorem rF_st {p : rP} {s : rS} (hs : rOk p s) (h : rEn s = -1) : rF p (stM p s) = rF p s := by
  show runM p 150 (stM p s) = if rEn s = -1 then runM p 149 (stM p s) else s
  rw [if_pos h]
  exact run_more 149 1 (stM p s) (stM_ok hs h) (by
    rw [stM_dn]
    omega)
theorem run_eo {p : rP} : ∀ k s, rEo s → rEo (runM p k s)
  | 0, _, h => h
  | k + 1, s, h => by
    show rEo (if rEn s = -1 then runM p k (stM p s) else s)
    by_cases c : rEn s = -1
    · rw [if_pos c]
      exact run_eo k _ stM_eo
    · rw [if_neg c]
      exact h
/-- what a program's run comes to -/
def runR (p : rP) : rS := runM p 150 rs0
theorem rs0_ok {p : rP} (h : 0 < pNl p) : rOk p rs0 := ⟨fun _ => ⟨h, by decide⟩, Nat.zero_le _, Nat.zero_le _, Nat.zero_le _⟩
end XM33
