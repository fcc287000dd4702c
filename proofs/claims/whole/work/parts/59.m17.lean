def stC (ps : List Prs) (n code : Nat) (B : Bst) : Bst := if code < 25 then (if code / 5 < n ∧ code % 5 < n ∧ code / 5 < code % 5 then st2 ps (code / 5) (code % 5) B else B) else (if (code - 25) / 25 < n ∧ (code - 25) / 5 % 5 < n ∧ (code - 25) % 5 < n ∧ (code - 25) / 25 < (code - 25) / 5 % 5 ∧ ¬ (code - 25) / 5 % 5 = (code - 25) % 5 ∧ (code - 25) / 25 < (code - 25) % 5 then st3 ps ((code - 25) / 25) ((code - 25) / 5 % 5) ((code - 25) % 5) B else B)
def foC (ps : List Prs) (n : Nat) : Nat → Nat → Bst → Bst
  | 0, _, B => B
  | k + 1, code, B => foC ps n k (code + 1) (stC ps n code B)
set_option maxRecDepth 100000 in
set_option maxHeartbeats 4000000 in
theorem foC_eq {ps : List Prs} (h : ps.length ≤ 5) : foC ps ps.length 150 0 (0, 0, 0, 0, 0) = bestB ps := by
  unfold bestB
  generalize ps.length = n at h ⊢
  match n, h with
  | 0, _ => rfl
  | 1, _ => rfl
  | 2, _ => rfl
  | 3, _ => rfl
  | 4, _ => rfl
  | 5, _ => rfl
