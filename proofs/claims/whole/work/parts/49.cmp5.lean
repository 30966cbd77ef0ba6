theorem zs (x : Int32) : 0 - x = -x := Int32.zero_sub x
theorem has_of {cnt : Nat} {shh shg : Nat → Int32} {q : Nat} (h : ¬ f_X10_holdsGoer cnt shh shg q = 0) : ¬ f_X8_has cnt (shg q) = 0 := by
  intro z
  unfold f_X10_holdsGoer at h
  by_cases a : shh q = 0
  · rw [if_pos a, if_pos z] at h; exact h rfl
  · rw [if_neg a] at h; exact h rfl
theorem ho_ne {x : Int32} (h : x = -1 ∨ ∃ so : Int32, (0 ≤ so ∧ so ≤ 3) ∧ x = 10 + so) : ¬ x = 0 := by
  rcases h with h | ⟨so, a, b⟩
  · rw [h]; decide
  · rw [b]; exact (ten a 0).2.1
set_option maxHeartbeats 4000000 in
theorem q_act {pl : List PE} {i cnt stp : Nat} {k f p m k' f' p' m' shh shg hds hdo : Nat → Int32} {shr : Nat → Option Nat} (hN : RN i cnt stp k f p m k' f' p' m') (h : RH pl shh shg shr hds hdo) (shelf act x : Int32) (bod : Nat → Int32) : f_X10_act k p cnt shelf act x shh shg = f_X11_act cnt k' p' hds hdo shelf act x ∧ f_X10_act_w4 k p cnt shelf act bod shh shg = f_X11_act_w1 cnt k' p' hds hdo bod shelf act ∧ f_X10_act_w5 k p cnt shelf act bod shh shg = f_X11_act_w4 cnt k' p' hds hdo bod shelf act := by
  unfold f_X10_act f_X11_act f_X10_act_w4 f_X11_act_w1 f_X10_act_w5 f_X11_act_w4
  simp only [nO_ite]
  by_cases h1 : f_X10_isOutside shelf 0 3 = 0
  · simp only [if_pos h1]
    rcases ho_eq h cnt (sh4 h1) with ⟨a, b, c⟩ | ⟨a, b⟩
    · have hg := (has_n hN.1 (has_of a)).2
      simp only [if_neg a, if_pos b, c, hN.2.2.1 _ hg, hN.2.2.2.2.1 _ hg, zs]
      exact ⟨trivial, trivial, trivial⟩
    · have hne : ¬ hoF cnt hds hdo (ix shelf) = 0 := ho_ne (by rcases b with ⟨b, -⟩ | ⟨e, -, -, b2, b3, -⟩; exact Or.inl b; exact Or.inr ⟨_, b2, b3⟩)
      simp only [if_pos a, if_neg hne]
      exact ⟨trivial, by split <;> rfl, trivial⟩
  · simp only [if_neg h1]; exact ⟨trivial, trivial, trivial⟩
theorem act_b (cnt : Nat) (k p hds hdo bod : Nat → Int32) (shelf act : Int32) : ∃ b : Nat, b ≤ 30 ∧ f_X11_act_w1 cnt k p hds hdo bod shelf act = nI b := by
  unfold f_X11_act_w1
  by_cases h1 : nO shelf 0 3 = 0
  · rw [if_pos h1]; exact ⟨0, by omega, rfl⟩
  · rw [if_neg h1]
    by_cases h2 : nO act 0 3 = 0
    · rw [if_pos h2]; exact ⟨0, by omega, rfl⟩
    · rw [if_neg h2]
      by_cases h3 : hoF cnt hds hdo (ix shelf) = 0
      · rw [if_pos h3]
        repeat' split
        all_goals (refine ⟨_, ?_, rfl⟩; (repeat apply tr1_le); exact Nat.zero_le _)
      · rw [if_neg h3]; exact ⟨0, by omega, rfl⟩
