theorem semi_01 (a : Int32) (b : Nat) (byt : Nat → Int32) : f_X7_isSemicolon a b byt = 0 ∨ f_X7_isSemicolon a b byt = 1 := by
  unfold f_X7_isSemicolon
  split
  · split
    · exact Or.inr rfl
    · exact Or.inl rfl
  · exact Or.inl rfl
theorem semi_3 {a : Int32} {b : Nat} {byt : Nat → Int32} (h : ¬ f_X7_isSemicolon a b byt = 0) : a = 3 := Classical.byContradiction (fun q => h (if_neg q))
theorem rgW {byt : Nat → Int32} {tsz x cn : Nat} {ki fs ps : Nat → Int32} {kd : Int32} : f_X7_readGoer tsz byt x cn = (if rgF byt tsz x cn = 0 then 0 else if f_X7_isSemicolon (wdO byt tsz (f_X7_readGoer_x tsz byt x cn)) (wdS byt tsz (f_X7_readGoer_x tsz byt x cn)) byt = 0 then 0 else 1) ∧ (¬ rgF byt tsz x cn = 0 → ¬ f_X7_isSemicolon (wdO byt tsz (f_X7_readGoer_x tsz byt x cn)) (wdS byt tsz (f_X7_readGoer_x tsz byt x cn)) byt = 0 → f_X7_readGoer_w1 tsz byt x cn = cn + 1 ∧ f_X7_readGoer_w2 tsz byt x ki cn kd = upd ki cn kd ∧ f_X7_readGoer_w3 tsz byt x fs cn = upd fs cn (rgV byt tsz x) ∧ f_X7_readGoer_w4 tsz byt x ps cn = upd ps cn (rdN byt tsz (wdE byt tsz (wdE byt tsz x)) 11) ∧ wdO byt tsz (f_X7_readGoer_x tsz byt x cn) = 3) := by
  by_cases h8 : nI cn < 8
  · by_cases a12 : nmR byt (wdO byt tsz (wdE byt tsz x)) (wdS byt tsz (wdE byt tsz x)) (wdE byt tsz (wdE byt tsz x)) 12 = 0
    · have e1 : rgF byt tsz x cn = 0 := by simp only [rgF, if_pos h8, if_pos a12]
      have e2 : f_X7_readGoer tsz byt x cn = 0 := by simp only [f_X7_readGoer, if_pos h8, if_pos a12]
      exact ⟨by rw [e2, if_pos e1], fun h => absurd e1 h⟩
    · by_cases a11 : 0 ≤ rdN byt tsz (wdE byt tsz (wdE byt tsz x)) 11
      · by_cases a14 : nmR byt (wdO byt tsz (wdE byt tsz (wdE byt tsz (wdE byt tsz x)))) (wdS byt tsz (wdE byt tsz (wdE byt tsz (wdE byt tsz x)))) (wdE byt tsz (wdE byt tsz (wdE byt tsz (wdE byt tsz x)))) 14 = 0
        · have e1 : rgF byt tsz x cn = 1 := by simp only [rgF, if_pos h8, if_neg a12, if_pos a11, if_pos a14]
          have e3 : f_X7_readGoer_x tsz byt x cn = (wdE byt tsz (wdE byt tsz (wdE byt tsz x))) := by simp only [f_X7_readGoer_x, if_pos h8, if_neg a12, if_pos a11, if_pos a14]
          have e2 : f_X7_readGoer tsz byt x cn = if f_X7_isSemicolon (wdO byt tsz (wdE byt tsz (wdE byt tsz (wdE byt tsz x)))) (wdS byt tsz (wdE byt tsz (wdE byt tsz (wdE byt tsz x)))) byt = 0 then 0 else 1 := by simp only [f_X7_readGoer, if_pos h8, if_neg a12, if_pos a11, if_pos a14]
          refine ⟨by rw [e2, e3, if_neg (show ¬ rgF byt tsz x cn = 0 by rw [e1]; decide)], fun _ h => ?_⟩
          rw [e3] at h ⊢
          refine ⟨by simp only [f_X7_readGoer_w1, if_pos h8, if_neg a12, if_pos a11, if_pos a14, if_neg h], by simp only [f_X7_readGoer_w2, if_pos h8, if_neg a12, if_pos a11, if_pos a14, if_neg h], by simp only [f_X7_readGoer_w3, rgV, if_pos h8, if_neg a12, if_pos a11, if_pos a14, if_neg h], by simp only [f_X7_readGoer_w4, if_pos h8, if_neg a12, if_pos a11, if_pos a14, if_neg h], semi_3 h⟩
        · by_cases a99 : 0 ≤ rdN byt tsz (wdE byt tsz (wdE byt tsz (wdE byt tsz (wdE byt tsz x)))) 99
          · have e1 : rgF byt tsz x cn = 1 := by simp only [rgF, if_pos h8, if_neg a12, if_pos a11, if_neg a14, if_pos a99]
            have e3 : f_X7_readGoer_x tsz byt x cn = (wdE byt tsz (wdE byt tsz (wdE byt tsz (wdE byt tsz (wdE byt tsz x))))) := by simp only [f_X7_readGoer_x, if_pos h8, if_neg a12, if_pos a11, if_neg a14, if_pos a99]
            have e2 : f_X7_readGoer tsz byt x cn = if f_X7_isSemicolon (wdO byt tsz (wdE byt tsz (wdE byt tsz (wdE byt tsz (wdE byt tsz (wdE byt tsz x)))))) (wdS byt tsz (wdE byt tsz (wdE byt tsz (wdE byt tsz (wdE byt tsz (wdE byt tsz x)))))) byt = 0 then 0 else 1 := by simp only [f_X7_readGoer, if_pos h8, if_neg a12, if_pos a11, if_neg a14, if_pos a99]
            refine ⟨by rw [e2, e3, if_neg (show ¬ rgF byt tsz x cn = 0 by rw [e1]; decide)], fun _ h => ?_⟩
            rw [e3] at h ⊢
            refine ⟨by simp only [f_X7_readGoer_w1, if_pos h8, if_neg a12, if_pos a11, if_neg a14, if_pos a99, if_neg h], by simp only [f_X7_readGoer_w2, if_pos h8, if_neg a12, if_pos a11, if_neg a14, if_pos a99, if_neg h], by simp only [f_X7_readGoer_w3, rgV, if_pos h8, if_neg a12, if_pos a11, if_neg a14, if_pos a99, if_neg h], by simp only [f_X7_readGoer_w4, if_pos h8, if_neg a12, if_pos a11, if_neg a14, if_pos a99, if_neg h], semi_3 h⟩
          · have e1 : rgF byt tsz x cn = 0 := by simp only [rgF, if_pos h8, if_neg a12, if_pos a11, if_neg a14, if_neg a99]
            have e2 : f_X7_readGoer tsz byt x cn = 0 := by simp only [f_X7_readGoer, if_pos h8, if_neg a12, if_pos a11, if_neg a14, if_neg a99]
            exact ⟨by rw [e2, if_pos e1], fun h => absurd e1 h⟩
      · have e1 : rgF byt tsz x cn = 0 := by simp only [rgF, if_pos h8, if_neg a12, if_neg a11]
        have e2 : f_X7_readGoer tsz byt x cn = 0 := by simp only [f_X7_readGoer, if_pos h8, if_neg a12, if_neg a11]
        exact ⟨by rw [e2, if_pos e1], fun h => absurd e1 h⟩
  · have e1 : rgF byt tsz x cn = 0 := by simp only [rgF, if_neg h8]
    have e2 : f_X7_readGoer tsz byt x cn = 0 := by simp only [f_X7_readGoer, if_neg h8]
    exact ⟨by rw [e2, if_pos e1], fun h => absurd e1 h⟩
theorem roW {byt : Nat → Int32} {tsz x : Nat} {fl : Nat → Int32} : f_X7_readRoster tsz byt x = (if roF byt tsz x = 0 then 0 else if f_X7_isSemicolon (wdO byt tsz (f_X7_readRoster_x tsz byt x)) (wdS byt tsz (f_X7_readRoster_x tsz byt x)) byt = 0 then 0 else 1) ∧ (¬ roF byt tsz x = 0 → ¬ f_X7_isSemicolon (wdO byt tsz (f_X7_readRoster_x tsz byt x)) (wdS byt tsz (f_X7_readRoster_x tsz byt x)) byt = 0 → f_X7_readRoster_w1 tsz byt x fl = upd fl (ix (rdN byt tsz (wdE byt tsz x) 5)) (rdN byt tsz (wdE byt tsz (wdE byt tsz (wdE byt tsz x))) 9) ∧ wdO byt tsz (f_X7_readRoster_x tsz byt x) = 3) := by
  by_cases h5 : 0 ≤ rdN byt tsz (wdE byt tsz x) 5
  · by_cases h13 : nmR byt (wdO byt tsz (wdE byt tsz (wdE byt tsz x))) (wdS byt tsz (wdE byt tsz (wdE byt tsz x))) (wdE byt tsz (wdE byt tsz (wdE byt tsz x))) 13 = 0
    · have e1 : roF byt tsz x = 0 := by simp only [roF, if_pos h5, if_pos h13]
      have e2 : f_X7_readRoster tsz byt x = 0 := by simp only [f_X7_readRoster, if_pos h5, if_pos h13]
      exact ⟨by rw [e2, if_pos e1], fun h => absurd e1 h⟩
    · by_cases h9 : 0 ≤ rdN byt tsz (wdE byt tsz (wdE byt tsz (wdE byt tsz x))) 9
      · have e1 : roF byt tsz x = 1 := by simp only [roF, if_pos h5, if_neg h13, if_pos h9]
        have e3 : f_X7_readRoster_x tsz byt x = (wdE byt tsz (wdE byt tsz (wdE byt tsz (wdE byt tsz x)))) := by simp only [f_X7_readRoster_x, if_pos h5, if_neg h13, if_pos h9]
        have e2 : f_X7_readRoster tsz byt x = f_X7_isSemicolon (wdO byt tsz (wdE byt tsz (wdE byt tsz (wdE byt tsz (wdE byt tsz x))))) (wdS byt tsz (wdE byt tsz (wdE byt tsz (wdE byt tsz (wdE byt tsz x))))) byt := by simp only [f_X7_readRoster, if_pos h5, if_neg h13, if_pos h9]
        refine ⟨?_, fun _ h => ?_⟩
        · rw [e2, e3, if_neg (show ¬ roF byt tsz x = 0 by rw [e1]; decide)]
          rcases semi_01 (wdO byt tsz (wdE byt tsz (wdE byt tsz (wdE byt tsz (wdE byt tsz x))))) (wdS byt tsz (wdE byt tsz (wdE byt tsz (wdE byt tsz (wdE byt tsz x))))) byt with q | q
          · rw [q, if_pos rfl]
          · rw [q, if_neg (by decide)]
        · rw [e3] at h ⊢
          exact ⟨by simp only [f_X7_readRoster_w1, if_pos h5, if_neg h13, if_pos h9], semi_3 h⟩
      · have e1 : roF byt tsz x = 0 := by simp only [roF, if_pos h5, if_neg h13, if_neg h9]
        have e2 : f_X7_readRoster tsz byt x = 0 := by simp only [f_X7_readRoster, if_pos h5, if_neg h13, if_neg h9]
        exact ⟨by rw [e2, if_pos e1], fun h => absurd e1 h⟩
  · have e1 : roF byt tsz x = 0 := by simp only [roF, if_neg h5]
    have e2 : f_X7_readRoster tsz byt x = 0 := by simp only [f_X7_readRoster, if_neg h5]
    exact ⟨by rw [e2, if_pos e1], fun h => absurd e1 h⟩
theorem lwW {byt : Nat → Int32} {tsz x lw : Nat} {la : Nat → Int32} : (if f_X7_readLaw tsz byt x lw = 0 then (0 : Int32) else 1) = (if lwF byt tsz x lw = 0 then 0 else if f_X7_isSemicolon (wdO byt tsz (f_X7_readLaw_x tsz byt x lw)) (wdS byt tsz (f_X7_readLaw_x tsz byt x lw)) byt = 0 then 0 else 1) ∧ (¬ lwF byt tsz x lw = 0 → ¬ f_X7_isSemicolon (wdO byt tsz (f_X7_readLaw_x tsz byt x lw)) (wdS byt tsz (f_X7_readLaw_x tsz byt x lw)) byt = 0 → f_X7_readLaw_w1 tsz byt x la lw = upd la lw (rdN byt tsz (wdE byt tsz x) (tq_most lw)) ∧ wdO byt tsz (f_X7_readLaw_x tsz byt x lw) = 3) := by
  by_cases h5 : 0 ≤ rdN byt tsz (wdE byt tsz x) (tq_most lw)
  · have e1 : lwF byt tsz x lw = 1 := by simp only [lwF, if_pos h5]
    have e3 : f_X7_readLaw_x tsz byt x lw = (wdE byt tsz (wdE byt tsz x)) := by simp only [f_X7_readLaw_x, if_pos h5]
    have e2 : f_X7_readLaw tsz byt x lw = f_X7_isSemicolon (wdO byt tsz (wdE byt tsz (wdE byt tsz x))) (wdS byt tsz (wdE byt tsz (wdE byt tsz x))) byt := by simp only [f_X7_readLaw, if_pos h5]
    refine ⟨by rw [e2, e3, if_neg (show ¬ lwF byt tsz x lw = 0 by rw [e1]; decide)], fun _ h => ?_⟩
    rw [e3] at h ⊢
    exact ⟨by simp only [f_X7_readLaw_w1, if_pos h5], semi_3 h⟩
  · have e1 : lwF byt tsz x lw = 0 := by simp only [lwF, if_neg h5]
    have e2 : f_X7_readLaw tsz byt x lw = 0 := by simp only [f_X7_readLaw, if_neg h5]
    exact ⟨by rw [e2, if_pos e1, if_pos rfl], fun h => absurd e1 h⟩
theorem rsG {byt : Nat → Int32} {tsz x cn : Nat} {la fo ar ki fs ps : Nat → Int32} (hk : ¬ f_X7_kindNamed (wdO byt tsz x) (wdS byt tsz x) (wdE byt tsz x) byt < 0) : f_X7_readSentence tsz byt x cn = (if rgF byt tsz x cn = 0 then 0 else if f_X7_isSemicolon (wdO byt tsz (f_X7_readGoer_x tsz byt x cn)) (wdS byt tsz (f_X7_readGoer_x tsz byt x cn)) byt = 0 then 0 else 1) ∧ f_X7_readSentence_x tsz byt x cn = (f_X7_readGoer_x tsz byt x cn) ∧ (¬ rgF byt tsz x cn = 0 → ¬ f_X7_isSemicolon (wdO byt tsz (f_X7_readGoer_x tsz byt x cn)) (wdS byt tsz (f_X7_readGoer_x tsz byt x cn)) byt = 0 → (f_X7_readSentence_w1 tsz byt x cn = cn + 1 ∧ f_X7_readSentence_w2 tsz byt x la = la ∧ f_X7_readSentence_w3 tsz byt x fo = fo ∧ f_X7_readSentence_w4 tsz byt x ar = ar ∧ f_X7_readSentence_w5 tsz byt x ki cn = upd ki cn (f_X7_kindNamed (wdO byt tsz x) (wdS byt tsz x) (wdE byt tsz x) byt) ∧ f_X7_readSentence_w6 tsz byt x fs cn = upd fs cn (rgV byt tsz x) ∧ f_X7_readSentence_w7 tsz byt x ps cn = upd ps cn (rdN byt tsz (wdE byt tsz (wdE byt tsz x)) 11)) ∧ wdO byt tsz (f_X7_readGoer_x tsz byt x cn) = 3) := by
  refine ⟨?_, ?_, fun h1 h2 => ?_⟩
  · simp only [f_X7_readSentence, if_neg hk]; exact (rgW (ki := ki) (fs := fs) (ps := ps) (kd := f_X7_kindNamed (wdO byt tsz x) (wdS byt tsz x) (wdE byt tsz x) byt)).1
  · simp only [f_X7_readSentence_x, if_neg hk]
  · have hr := (rgW (ki := ki) (fs := fs) (ps := ps) (kd := f_X7_kindNamed (wdO byt tsz x) (wdS byt tsz x) (wdE byt tsz x) byt)).2 h1 h2
    exact ⟨⟨by simp only [f_X7_readSentence_w1, if_neg hk]; exact hr.1, by simp only [f_X7_readSentence_w2, if_neg hk], by simp only [f_X7_readSentence_w3, if_neg hk], by simp only [f_X7_readSentence_w4, if_neg hk], by simp only [f_X7_readSentence_w5, if_neg hk]; exact hr.2.1, by simp only [f_X7_readSentence_w6, if_neg hk]; exact hr.2.2.1, by simp only [f_X7_readSentence_w7, if_neg hk]; exact hr.2.2.2.1⟩, hr.2.2.2.2⟩
theorem rsF {byt : Nat → Int32} {tsz x cn : Nat} {la fo ar ki fs ps : Nat → Int32} (hk : f_X7_kindNamed (wdO byt tsz x) (wdS byt tsz x) (wdE byt tsz x) byt < 0) (h6 : ¬ nmR byt (wdO byt tsz x) (wdS byt tsz x) (wdE byt tsz x) 6 = 0) : f_X7_readSentence tsz byt x cn = (if roF byt tsz x = 0 then 0 else if f_X7_isSemicolon (wdO byt tsz (f_X7_readRoster_x tsz byt x)) (wdS byt tsz (f_X7_readRoster_x tsz byt x)) byt = 0 then 0 else 1) ∧ f_X7_readSentence_x tsz byt x cn = (f_X7_readRoster_x tsz byt x) ∧ (¬ roF byt tsz x = 0 → ¬ f_X7_isSemicolon (wdO byt tsz (f_X7_readRoster_x tsz byt x)) (wdS byt tsz (f_X7_readRoster_x tsz byt x)) byt = 0 → (f_X7_readSentence_w1 tsz byt x cn = cn ∧ f_X7_readSentence_w2 tsz byt x la = la ∧ f_X7_readSentence_w3 tsz byt x fo = upd fo (ix (rdN byt tsz (wdE byt tsz x) 5)) (rdN byt tsz (wdE byt tsz (wdE byt tsz (wdE byt tsz x))) 9) ∧ f_X7_readSentence_w4 tsz byt x ar = ar ∧ f_X7_readSentence_w5 tsz byt x ki cn = ki ∧ f_X7_readSentence_w6 tsz byt x fs cn = fs ∧ f_X7_readSentence_w7 tsz byt x ps cn = ps) ∧ wdO byt tsz (f_X7_readRoster_x tsz byt x) = 3) := by
  refine ⟨?_, ?_, fun h1 h2 => ?_⟩
  · simp only [f_X7_readSentence, if_pos hk, if_neg h6]; exact (roW (fl := fo)).1
  · simp only [f_X7_readSentence_x, if_pos hk, if_neg h6]
  · have hr := (roW (fl := fo)).2 h1 h2
    exact ⟨⟨by simp only [f_X7_readSentence_w1, if_pos hk, if_neg h6], by simp only [f_X7_readSentence_w2, if_pos hk, if_neg h6], by simp only [f_X7_readSentence_w3, if_pos hk, if_neg h6]; exact hr.1, by simp only [f_X7_readSentence_w4, if_pos hk, if_neg h6], by simp only [f_X7_readSentence_w5, if_pos hk, if_neg h6], by simp only [f_X7_readSentence_w6, if_pos hk, if_neg h6], by simp only [f_X7_readSentence_w7, if_pos hk, if_neg h6]⟩, hr.2⟩
theorem rsR {byt : Nat → Int32} {tsz x cn : Nat} {la fo ar ki fs ps : Nat → Int32} (hk : f_X7_kindNamed (wdO byt tsz x) (wdS byt tsz x) (wdE byt tsz x) byt < 0) (h6 : nmR byt (wdO byt tsz x) (wdS byt tsz x) (wdE byt tsz x) 6 = 0) (h7 : ¬ nmR byt (wdO byt tsz x) (wdS byt tsz x) (wdE byt tsz x) 7 = 0) : f_X7_readSentence tsz byt x cn = (if roF byt tsz x = 0 then 0 else if f_X7_isSemicolon (wdO byt tsz (f_X7_readRoster_x tsz byt x)) (wdS byt tsz (f_X7_readRoster_x tsz byt x)) byt = 0 then 0 else 1) ∧ f_X7_readSentence_x tsz byt x cn = (f_X7_readRoster_x tsz byt x) ∧ (¬ roF byt tsz x = 0 → ¬ f_X7_isSemicolon (wdO byt tsz (f_X7_readRoster_x tsz byt x)) (wdS byt tsz (f_X7_readRoster_x tsz byt x)) byt = 0 → (f_X7_readSentence_w1 tsz byt x cn = cn ∧ f_X7_readSentence_w2 tsz byt x la = la ∧ f_X7_readSentence_w3 tsz byt x fo = fo ∧ f_X7_readSentence_w4 tsz byt x ar = upd ar (ix (rdN byt tsz (wdE byt tsz x) 5)) (rdN byt tsz (wdE byt tsz (wdE byt tsz (wdE byt tsz x))) 9) ∧ f_X7_readSentence_w5 tsz byt x ki cn = ki ∧ f_X7_readSentence_w6 tsz byt x fs cn = fs ∧ f_X7_readSentence_w7 tsz byt x ps cn = ps) ∧ wdO byt tsz (f_X7_readRoster_x tsz byt x) = 3) := by
  refine ⟨?_, ?_, fun h1 h2 => ?_⟩
  · simp only [f_X7_readSentence, if_pos hk, if_pos h6, if_neg h7]; exact (roW (fl := ar)).1
  · simp only [f_X7_readSentence_x, if_pos hk, if_pos h6, if_neg h7]
  · have hr := (roW (fl := ar)).2 h1 h2
    exact ⟨⟨by simp only [f_X7_readSentence_w1, if_pos hk, if_pos h6, if_neg h7], by simp only [f_X7_readSentence_w2, if_pos hk, if_pos h6, if_neg h7], by simp only [f_X7_readSentence_w3, if_pos hk, if_pos h6, if_neg h7], by simp only [f_X7_readSentence_w4, if_pos hk, if_pos h6, if_neg h7]; exact hr.1, by simp only [f_X7_readSentence_w5, if_pos hk, if_pos h6, if_neg h7], by simp only [f_X7_readSentence_w6, if_pos hk, if_pos h6, if_neg h7], by simp only [f_X7_readSentence_w7, if_pos hk, if_pos h6, if_neg h7]⟩, hr.2⟩
theorem rsL0 {byt : Nat → Int32} {tsz x cn : Nat} {la fo ar ki fs ps : Nat → Int32} (hk : f_X7_kindNamed (wdO byt tsz x) (wdS byt tsz x) (wdE byt tsz x) byt < 0) (h6 : nmR byt (wdO byt tsz x) (wdS byt tsz x) (wdE byt tsz x) 6 = 0) (h7 : nmR byt (wdO byt tsz x) (wdS byt tsz x) (wdE byt tsz x) 7 = 0) (hl : f_X7_lawNamed (wdO byt tsz x) (wdS byt tsz x) (wdE byt tsz x) byt = 0) : f_X7_readSentence tsz byt x cn = (if lwF byt tsz x 0 = 0 then 0 else if f_X7_isSemicolon (wdO byt tsz (f_X7_readLaw_x tsz byt x 0)) (wdS byt tsz (f_X7_readLaw_x tsz byt x 0)) byt = 0 then 0 else 1) ∧ f_X7_readSentence_x tsz byt x cn = (f_X7_readLaw_x tsz byt x 0) ∧ (¬ lwF byt tsz x 0 = 0 → ¬ f_X7_isSemicolon (wdO byt tsz (f_X7_readLaw_x tsz byt x 0)) (wdS byt tsz (f_X7_readLaw_x tsz byt x 0)) byt = 0 → (f_X7_readSentence_w1 tsz byt x cn = cn ∧ f_X7_readSentence_w2 tsz byt x la = upd la 0 (rdN byt tsz (wdE byt tsz x) (tq_most 0)) ∧ f_X7_readSentence_w3 tsz byt x fo = fo ∧ f_X7_readSentence_w4 tsz byt x ar = ar ∧ f_X7_readSentence_w5 tsz byt x ki cn = ki ∧ f_X7_readSentence_w6 tsz byt x fs cn = fs ∧ f_X7_readSentence_w7 tsz byt x ps cn = ps) ∧ wdO byt tsz (f_X7_readLaw_x tsz byt x 0) = 3) := by
  refine ⟨?_, ?_, fun h1 h2 => ?_⟩
  · simp only [f_X7_readSentence, if_pos hk, if_pos h6, if_pos h7, hl, if_neg (show ¬ (0 : Int32) < 0 by decide), show ix (0 : Int32) = 0 from rfl]; exact (lwW (lw := 0) (la := la)).1
  · simp only [f_X7_readSentence_x, if_pos hk, if_pos h6, if_pos h7, hl, if_neg (show ¬ (0 : Int32) < 0 by decide), show ix (0 : Int32) = 0 from rfl]
  · have hr := (lwW (lw := 0) (la := la)).2 h1 h2
    exact ⟨⟨by simp only [f_X7_readSentence_w1, if_pos hk, if_pos h6, if_pos h7, hl, if_neg (show ¬ (0 : Int32) < 0 by decide), show ix (0 : Int32) = 0 from rfl], by simp only [f_X7_readSentence_w2, if_pos hk, if_pos h6, if_pos h7, hl, if_neg (show ¬ (0 : Int32) < 0 by decide), show ix (0 : Int32) = 0 from rfl]; exact hr.1, by simp only [f_X7_readSentence_w3, if_pos hk, if_pos h6, if_pos h7, hl, if_neg (show ¬ (0 : Int32) < 0 by decide), show ix (0 : Int32) = 0 from rfl], by simp only [f_X7_readSentence_w4, if_pos hk, if_pos h6, if_pos h7, hl, if_neg (show ¬ (0 : Int32) < 0 by decide), show ix (0 : Int32) = 0 from rfl], by simp only [f_X7_readSentence_w5, if_pos hk, if_pos h6, if_pos h7, hl, if_neg (show ¬ (0 : Int32) < 0 by decide), show ix (0 : Int32) = 0 from rfl], by simp only [f_X7_readSentence_w6, if_pos hk, if_pos h6, if_pos h7, hl, if_neg (show ¬ (0 : Int32) < 0 by decide), show ix (0 : Int32) = 0 from rfl], by simp only [f_X7_readSentence_w7, if_pos hk, if_pos h6, if_pos h7, hl, if_neg (show ¬ (0 : Int32) < 0 by decide), show ix (0 : Int32) = 0 from rfl]⟩, hr.2⟩
theorem rsL1 {byt : Nat → Int32} {tsz x cn : Nat} {la fo ar ki fs ps : Nat → Int32} (hk : f_X7_kindNamed (wdO byt tsz x) (wdS byt tsz x) (wdE byt tsz x) byt < 0) (h6 : nmR byt (wdO byt tsz x) (wdS byt tsz x) (wdE byt tsz x) 6 = 0) (h7 : nmR byt (wdO byt tsz x) (wdS byt tsz x) (wdE byt tsz x) 7 = 0) (hl : f_X7_lawNamed (wdO byt tsz x) (wdS byt tsz x) (wdE byt tsz x) byt = 1) : f_X7_readSentence tsz byt x cn = (if lwF byt tsz x 1 = 0 then 0 else if f_X7_isSemicolon (wdO byt tsz (f_X7_readLaw_x tsz byt x 1)) (wdS byt tsz (f_X7_readLaw_x tsz byt x 1)) byt = 0 then 0 else 1) ∧ f_X7_readSentence_x tsz byt x cn = (f_X7_readLaw_x tsz byt x 1) ∧ (¬ lwF byt tsz x 1 = 0 → ¬ f_X7_isSemicolon (wdO byt tsz (f_X7_readLaw_x tsz byt x 1)) (wdS byt tsz (f_X7_readLaw_x tsz byt x 1)) byt = 0 → (f_X7_readSentence_w1 tsz byt x cn = cn ∧ f_X7_readSentence_w2 tsz byt x la = upd la 1 (rdN byt tsz (wdE byt tsz x) (tq_most 1)) ∧ f_X7_readSentence_w3 tsz byt x fo = fo ∧ f_X7_readSentence_w4 tsz byt x ar = ar ∧ f_X7_readSentence_w5 tsz byt x ki cn = ki ∧ f_X7_readSentence_w6 tsz byt x fs cn = fs ∧ f_X7_readSentence_w7 tsz byt x ps cn = ps) ∧ wdO byt tsz (f_X7_readLaw_x tsz byt x 1) = 3) := by
  refine ⟨?_, ?_, fun h1 h2 => ?_⟩
  · simp only [f_X7_readSentence, if_pos hk, if_pos h6, if_pos h7, hl, if_neg (show ¬ (1 : Int32) < 0 by decide), show ix (1 : Int32) = 1 from rfl]; exact (lwW (lw := 1) (la := la)).1
  · simp only [f_X7_readSentence_x, if_pos hk, if_pos h6, if_pos h7, hl, if_neg (show ¬ (1 : Int32) < 0 by decide), show ix (1 : Int32) = 1 from rfl]
  · have hr := (lwW (lw := 1) (la := la)).2 h1 h2
    exact ⟨⟨by simp only [f_X7_readSentence_w1, if_pos hk, if_pos h6, if_pos h7, hl, if_neg (show ¬ (1 : Int32) < 0 by decide), show ix (1 : Int32) = 1 from rfl], by simp only [f_X7_readSentence_w2, if_pos hk, if_pos h6, if_pos h7, hl, if_neg (show ¬ (1 : Int32) < 0 by decide), show ix (1 : Int32) = 1 from rfl]; exact hr.1, by simp only [f_X7_readSentence_w3, if_pos hk, if_pos h6, if_pos h7, hl, if_neg (show ¬ (1 : Int32) < 0 by decide), show ix (1 : Int32) = 1 from rfl], by simp only [f_X7_readSentence_w4, if_pos hk, if_pos h6, if_pos h7, hl, if_neg (show ¬ (1 : Int32) < 0 by decide), show ix (1 : Int32) = 1 from rfl], by simp only [f_X7_readSentence_w5, if_pos hk, if_pos h6, if_pos h7, hl, if_neg (show ¬ (1 : Int32) < 0 by decide), show ix (1 : Int32) = 1 from rfl], by simp only [f_X7_readSentence_w6, if_pos hk, if_pos h6, if_pos h7, hl, if_neg (show ¬ (1 : Int32) < 0 by decide), show ix (1 : Int32) = 1 from rfl], by simp only [f_X7_readSentence_w7, if_pos hk, if_pos h6, if_pos h7, hl, if_neg (show ¬ (1 : Int32) < 0 by decide), show ix (1 : Int32) = 1 from rfl]⟩, hr.2⟩
theorem rsL2 {byt : Nat → Int32} {tsz x cn : Nat} {la fo ar ki fs ps : Nat → Int32} (hk : f_X7_kindNamed (wdO byt tsz x) (wdS byt tsz x) (wdE byt tsz x) byt < 0) (h6 : nmR byt (wdO byt tsz x) (wdS byt tsz x) (wdE byt tsz x) 6 = 0) (h7 : nmR byt (wdO byt tsz x) (wdS byt tsz x) (wdE byt tsz x) 7 = 0) (hl : f_X7_lawNamed (wdO byt tsz x) (wdS byt tsz x) (wdE byt tsz x) byt = 2) : f_X7_readSentence tsz byt x cn = (if lwF byt tsz x 2 = 0 then 0 else if f_X7_isSemicolon (wdO byt tsz (f_X7_readLaw_x tsz byt x 2)) (wdS byt tsz (f_X7_readLaw_x tsz byt x 2)) byt = 0 then 0 else 1) ∧ f_X7_readSentence_x tsz byt x cn = (f_X7_readLaw_x tsz byt x 2) ∧ (¬ lwF byt tsz x 2 = 0 → ¬ f_X7_isSemicolon (wdO byt tsz (f_X7_readLaw_x tsz byt x 2)) (wdS byt tsz (f_X7_readLaw_x tsz byt x 2)) byt = 0 → (f_X7_readSentence_w1 tsz byt x cn = cn ∧ f_X7_readSentence_w2 tsz byt x la = upd la 2 (rdN byt tsz (wdE byt tsz x) (tq_most 2)) ∧ f_X7_readSentence_w3 tsz byt x fo = fo ∧ f_X7_readSentence_w4 tsz byt x ar = ar ∧ f_X7_readSentence_w5 tsz byt x ki cn = ki ∧ f_X7_readSentence_w6 tsz byt x fs cn = fs ∧ f_X7_readSentence_w7 tsz byt x ps cn = ps) ∧ wdO byt tsz (f_X7_readLaw_x tsz byt x 2) = 3) := by
  refine ⟨?_, ?_, fun h1 h2 => ?_⟩
  · simp only [f_X7_readSentence, if_pos hk, if_pos h6, if_pos h7, hl, if_neg (show ¬ (2 : Int32) < 0 by decide), show ix (2 : Int32) = 2 from rfl]; exact (lwW (lw := 2) (la := la)).1
  · simp only [f_X7_readSentence_x, if_pos hk, if_pos h6, if_pos h7, hl, if_neg (show ¬ (2 : Int32) < 0 by decide), show ix (2 : Int32) = 2 from rfl]
  · have hr := (lwW (lw := 2) (la := la)).2 h1 h2
    exact ⟨⟨by simp only [f_X7_readSentence_w1, if_pos hk, if_pos h6, if_pos h7, hl, if_neg (show ¬ (2 : Int32) < 0 by decide), show ix (2 : Int32) = 2 from rfl], by simp only [f_X7_readSentence_w2, if_pos hk, if_pos h6, if_pos h7, hl, if_neg (show ¬ (2 : Int32) < 0 by decide), show ix (2 : Int32) = 2 from rfl]; exact hr.1, by simp only [f_X7_readSentence_w3, if_pos hk, if_pos h6, if_pos h7, hl, if_neg (show ¬ (2 : Int32) < 0 by decide), show ix (2 : Int32) = 2 from rfl], by simp only [f_X7_readSentence_w4, if_pos hk, if_pos h6, if_pos h7, hl, if_neg (show ¬ (2 : Int32) < 0 by decide), show ix (2 : Int32) = 2 from rfl], by simp only [f_X7_readSentence_w5, if_pos hk, if_pos h6, if_pos h7, hl, if_neg (show ¬ (2 : Int32) < 0 by decide), show ix (2 : Int32) = 2 from rfl], by simp only [f_X7_readSentence_w6, if_pos hk, if_pos h6, if_pos h7, hl, if_neg (show ¬ (2 : Int32) < 0 by decide), show ix (2 : Int32) = 2 from rfl], by simp only [f_X7_readSentence_w7, if_pos hk, if_pos h6, if_pos h7, hl, if_neg (show ¬ (2 : Int32) < 0 by decide), show ix (2 : Int32) = 2 from rfl]⟩, hr.2⟩
theorem rsL3 {byt : Nat → Int32} {tsz x cn : Nat} {la fo ar ki fs ps : Nat → Int32} (hk : f_X7_kindNamed (wdO byt tsz x) (wdS byt tsz x) (wdE byt tsz x) byt < 0) (h6 : nmR byt (wdO byt tsz x) (wdS byt tsz x) (wdE byt tsz x) 6 = 0) (h7 : nmR byt (wdO byt tsz x) (wdS byt tsz x) (wdE byt tsz x) 7 = 0) (hl : f_X7_lawNamed (wdO byt tsz x) (wdS byt tsz x) (wdE byt tsz x) byt = 3) : f_X7_readSentence tsz byt x cn = (if lwF byt tsz x 3 = 0 then 0 else if f_X7_isSemicolon (wdO byt tsz (f_X7_readLaw_x tsz byt x 3)) (wdS byt tsz (f_X7_readLaw_x tsz byt x 3)) byt = 0 then 0 else 1) ∧ f_X7_readSentence_x tsz byt x cn = (f_X7_readLaw_x tsz byt x 3) ∧ (¬ lwF byt tsz x 3 = 0 → ¬ f_X7_isSemicolon (wdO byt tsz (f_X7_readLaw_x tsz byt x 3)) (wdS byt tsz (f_X7_readLaw_x tsz byt x 3)) byt = 0 → (f_X7_readSentence_w1 tsz byt x cn = cn ∧ f_X7_readSentence_w2 tsz byt x la = upd la 3 (rdN byt tsz (wdE byt tsz x) (tq_most 3)) ∧ f_X7_readSentence_w3 tsz byt x fo = fo ∧ f_X7_readSentence_w4 tsz byt x ar = ar ∧ f_X7_readSentence_w5 tsz byt x ki cn = ki ∧ f_X7_readSentence_w6 tsz byt x fs cn = fs ∧ f_X7_readSentence_w7 tsz byt x ps cn = ps) ∧ wdO byt tsz (f_X7_readLaw_x tsz byt x 3) = 3) := by
  refine ⟨?_, ?_, fun h1 h2 => ?_⟩
  · simp only [f_X7_readSentence, if_pos hk, if_pos h6, if_pos h7, hl, if_neg (show ¬ (3 : Int32) < 0 by decide), show ix (3 : Int32) = 3 from rfl]; exact (lwW (lw := 3) (la := la)).1
  · simp only [f_X7_readSentence_x, if_pos hk, if_pos h6, if_pos h7, hl, if_neg (show ¬ (3 : Int32) < 0 by decide), show ix (3 : Int32) = 3 from rfl]
  · have hr := (lwW (lw := 3) (la := la)).2 h1 h2
    exact ⟨⟨by simp only [f_X7_readSentence_w1, if_pos hk, if_pos h6, if_pos h7, hl, if_neg (show ¬ (3 : Int32) < 0 by decide), show ix (3 : Int32) = 3 from rfl], by simp only [f_X7_readSentence_w2, if_pos hk, if_pos h6, if_pos h7, hl, if_neg (show ¬ (3 : Int32) < 0 by decide), show ix (3 : Int32) = 3 from rfl]; exact hr.1, by simp only [f_X7_readSentence_w3, if_pos hk, if_pos h6, if_pos h7, hl, if_neg (show ¬ (3 : Int32) < 0 by decide), show ix (3 : Int32) = 3 from rfl], by simp only [f_X7_readSentence_w4, if_pos hk, if_pos h6, if_pos h7, hl, if_neg (show ¬ (3 : Int32) < 0 by decide), show ix (3 : Int32) = 3 from rfl], by simp only [f_X7_readSentence_w5, if_pos hk, if_pos h6, if_pos h7, hl, if_neg (show ¬ (3 : Int32) < 0 by decide), show ix (3 : Int32) = 3 from rfl], by simp only [f_X7_readSentence_w6, if_pos hk, if_pos h6, if_pos h7, hl, if_neg (show ¬ (3 : Int32) < 0 by decide), show ix (3 : Int32) = 3 from rfl], by simp only [f_X7_readSentence_w7, if_pos hk, if_pos h6, if_pos h7, hl, if_neg (show ¬ (3 : Int32) < 0 by decide), show ix (3 : Int32) = 3 from rfl]⟩, hr.2⟩
theorem rsN {byt : Nat → Int32} {tsz x cn : Nat} (hk : f_X7_kindNamed (wdO byt tsz x) (wdS byt tsz x) (wdE byt tsz x) byt < 0) (h6 : nmR byt (wdO byt tsz x) (wdS byt tsz x) (wdE byt tsz x) 6 = 0) (h7 : nmR byt (wdO byt tsz x) (wdS byt tsz x) (wdE byt tsz x) 7 = 0) (hl : f_X7_lawNamed (wdO byt tsz x) (wdS byt tsz x) (wdE byt tsz x) byt < 0) : f_X7_readSentence tsz byt x cn = 0 ∧ f_X7_readSentence_x tsz byt x cn = x := by
  exact ⟨by simp only [f_X7_readSentence, if_pos hk, if_pos h6, if_pos h7, if_pos hl], by simp only [f_X7_readSentence_x, if_pos hk, if_pos h6, if_pos h7, if_pos hl]⟩
theorem tk_split {byt : Nat → Int32} (hb : ∀ j, isB (byt j)) (tsz x : Nat) : (tkF byt tsz x = 0 ∧ f_X7_kindNamed (wdO byt tsz x) (wdS byt tsz x) (wdE byt tsz x) byt = 0) ∨ (tkF byt tsz x = 1 ∧ f_X7_kindNamed (wdO byt tsz x) (wdS byt tsz x) (wdE byt tsz x) byt = 1) ∨ (tkF byt tsz x = 2 ∧ f_X7_kindNamed (wdO byt tsz x) (wdS byt tsz x) (wdE byt tsz x) byt = 2) ∨ (tkF byt tsz x = 3 ∧ f_X7_kindNamed (wdO byt tsz x) (wdS byt tsz x) (wdE byt tsz x) byt = 3) ∨ (tkF byt tsz x = 4 ∧ f_X7_kindNamed (wdO byt tsz x) (wdS byt tsz x) (wdE byt tsz x) byt = 4) ∨ (tkF byt tsz x = 5 ∧ f_X7_kindNamed (wdO byt tsz x) (wdS byt tsz x) (wdE byt tsz x) byt = 5) ∨ (tkF byt tsz x = 6 ∧ f_X7_kindNamed (wdO byt tsz x) (wdS byt tsz x) (wdE byt tsz x) byt = -1 ∧ ¬ nmR byt (wdO byt tsz x) (wdS byt tsz x) (wdE byt tsz x) 6 = 0) ∨ (tkF byt tsz x = 7 ∧ f_X7_kindNamed (wdO byt tsz x) (wdS byt tsz x) (wdE byt tsz x) byt = -1 ∧ nmR byt (wdO byt tsz x) (wdS byt tsz x) (wdE byt tsz x) 6 = 0 ∧ ¬ nmR byt (wdO byt tsz x) (wdS byt tsz x) (wdE byt tsz x) 7 = 0) ∨ (tkF byt tsz x = 8 ∧ f_X7_kindNamed (wdO byt tsz x) (wdS byt tsz x) (wdE byt tsz x) byt = -1 ∧ nmR byt (wdO byt tsz x) (wdS byt tsz x) (wdE byt tsz x) 6 = 0 ∧ nmR byt (wdO byt tsz x) (wdS byt tsz x) (wdE byt tsz x) 7 = 0 ∧ f_X7_lawNamed (wdO byt tsz x) (wdS byt tsz x) (wdE byt tsz x) byt = 0) ∨ (tkF byt tsz x = 9 ∧ f_X7_kindNamed (wdO byt tsz x) (wdS byt tsz x) (wdE byt tsz x) byt = -1 ∧ nmR byt (wdO byt tsz x) (wdS byt tsz x) (wdE byt tsz x) 6 = 0 ∧ nmR byt (wdO byt tsz x) (wdS byt tsz x) (wdE byt tsz x) 7 = 0 ∧ f_X7_lawNamed (wdO byt tsz x) (wdS byt tsz x) (wdE byt tsz x) byt = 1) ∨ (tkF byt tsz x = 10 ∧ f_X7_kindNamed (wdO byt tsz x) (wdS byt tsz x) (wdE byt tsz x) byt = -1 ∧ nmR byt (wdO byt tsz x) (wdS byt tsz x) (wdE byt tsz x) 6 = 0 ∧ nmR byt (wdO byt tsz x) (wdS byt tsz x) (wdE byt tsz x) 7 = 0 ∧ f_X7_lawNamed (wdO byt tsz x) (wdS byt tsz x) (wdE byt tsz x) byt = 2) ∨ (tkF byt tsz x = 11 ∧ f_X7_kindNamed (wdO byt tsz x) (wdS byt tsz x) (wdE byt tsz x) byt = -1 ∧ nmR byt (wdO byt tsz x) (wdS byt tsz x) (wdE byt tsz x) 6 = 0 ∧ nmR byt (wdO byt tsz x) (wdS byt tsz x) (wdE byt tsz x) 7 = 0 ∧ f_X7_lawNamed (wdO byt tsz x) (wdS byt tsz x) (wdE byt tsz x) byt = 3) ∨ ((nO (tkF byt tsz x) 0 5 = 0 ∧ nO (tkF byt tsz x) 6 7 = 0 ∧ nO (tkF byt tsz x) 8 11 = 0) ∧ f_X7_kindNamed (wdO byt tsz x) (wdS byt tsz x) (wdE byt tsz x) byt = -1 ∧ nmR byt (wdO byt tsz x) (wdS byt tsz x) (wdE byt tsz x) 6 = 0 ∧ nmR byt (wdO byt tsz x) (wdS byt tsz x) (wdE byt tsz x) 7 = 0 ∧ f_X7_lawNamed (wdO byt tsz x) (wdS byt tsz x) (wdE byt tsz x) byt = -1) := by
  have hz : ∀ w, w < 15 → ∀ v, v < 15 → ¬ nmR byt (wdO byt tsz x) (wdS byt tsz x) (wdE byt tsz x) w = 0 → w ≠ v → nmR byt (wdO byt tsz x) (wdS byt tsz x) (wdE byt tsz x) v = 0 := fun w hw v hv h hne => Classical.byContradiction (fun q => by
    have h1 := (tk_nm hb hw).mpr h
    have h2 := (tk_nm hb hv).mpr q
    exact hne ((nI_eq (by omega) (by omega)).mp (h1.symm.trans h2)))
  have kn : ∀ w, w < 6 → ¬ nmR byt (wdO byt tsz x) (wdS byt tsz x) (wdE byt tsz x) w = 0 → f_X7_kindNamed (wdO byt tsz x) (wdS byt tsz x) (wdE byt tsz x) byt = nI w := fun w hw h => by
    unfold f_X7_kindNamed
    rcases (show w = 0 ∨ w = 1 ∨ w = 2 ∨ w = 3 ∨ w = 4 ∨ w = 5 by omega) with rfl | rfl | rfl | rfl | rfl | rfl
    · rw [if_neg h]; rfl
    · rw [if_pos (hz 1 (by decide) 0 (by decide) h (by decide)), if_neg h]; rfl
    · rw [if_pos (hz 2 (by decide) 0 (by decide) h (by decide)), if_pos (hz 2 (by decide) 1 (by decide) h (by decide)), if_neg h]; rfl
    · rw [if_pos (hz 3 (by decide) 0 (by decide) h (by decide)), if_pos (hz 3 (by decide) 1 (by decide) h (by decide)), if_pos (hz 3 (by decide) 2 (by decide) h (by decide)), if_neg h]; rfl
    · rw [if_pos (hz 4 (by decide) 0 (by decide) h (by decide)), if_pos (hz 4 (by decide) 1 (by decide) h (by decide)), if_pos (hz 4 (by decide) 2 (by decide) h (by decide)), if_pos (hz 4 (by decide) 3 (by decide) h (by decide)), if_neg h]; rfl
    · rw [if_pos (hz 5 (by decide) 0 (by decide) h (by decide)), if_pos (hz 5 (by decide) 1 (by decide) h (by decide)), if_pos (hz 5 (by decide) 2 (by decide) h (by decide)), if_pos (hz 5 (by decide) 3 (by decide) h (by decide)), if_pos (hz 5 (by decide) 4 (by decide) h (by decide)), if_neg h]; rfl
  have k0 : (∀ v, v < 6 → nmR byt (wdO byt tsz x) (wdS byt tsz x) (wdE byt tsz x) v = 0) → f_X7_kindNamed (wdO byt tsz x) (wdS byt tsz x) (wdE byt tsz x) byt = -1 := fun h => by unfold f_X7_kindNamed; rw [if_pos (h 0 (by decide)), if_pos (h 1 (by decide)), if_pos (h 2 (by decide)), if_pos (h 3 (by decide)), if_pos (h 4 (by decide)), if_pos (h 5 (by decide))]
  have l0 : (∀ v, v < 12 → nmR byt (wdO byt tsz x) (wdS byt tsz x) (wdE byt tsz x) v = 0) → f_X7_lawNamed (wdO byt tsz x) (wdS byt tsz x) (wdE byt tsz x) byt = -1 := fun h => by unfold f_X7_lawNamed; rw [if_pos (h 8 (by decide)), if_pos (h 9 (by decide)), if_pos (h 10 (by decide)), if_pos (h 11 (by decide))]
  by_cases h0 : nmR byt (wdO byt tsz x) (wdS byt tsz x) (wdE byt tsz x) 0 = 0
  case neg =>
    exact Or.inl ⟨(tk_nm hb (w := 0) (by decide)).mpr h0, kn 0 (by decide) h0⟩
  by_cases h1 : nmR byt (wdO byt tsz x) (wdS byt tsz x) (wdE byt tsz x) 1 = 0
  case neg =>
    exact Or.inr (Or.inl ⟨(tk_nm hb (w := 1) (by decide)).mpr h1, kn 1 (by decide) h1⟩)
  by_cases h2 : nmR byt (wdO byt tsz x) (wdS byt tsz x) (wdE byt tsz x) 2 = 0
  case neg =>
    exact Or.inr (Or.inr (Or.inl ⟨(tk_nm hb (w := 2) (by decide)).mpr h2, kn 2 (by decide) h2⟩))
  by_cases h3 : nmR byt (wdO byt tsz x) (wdS byt tsz x) (wdE byt tsz x) 3 = 0
  case neg =>
    exact Or.inr (Or.inr (Or.inr (Or.inl ⟨(tk_nm hb (w := 3) (by decide)).mpr h3, kn 3 (by decide) h3⟩)))
  by_cases h4 : nmR byt (wdO byt tsz x) (wdS byt tsz x) (wdE byt tsz x) 4 = 0
  case neg =>
    exact Or.inr (Or.inr (Or.inr (Or.inr (Or.inl ⟨(tk_nm hb (w := 4) (by decide)).mpr h4, kn 4 (by decide) h4⟩))))
  by_cases h5 : nmR byt (wdO byt tsz x) (wdS byt tsz x) (wdE byt tsz x) 5 = 0
  case neg =>
    exact Or.inr (Or.inr (Or.inr (Or.inr (Or.inr (Or.inl ⟨(tk_nm hb (w := 5) (by decide)).mpr h5, kn 5 (by decide) h5⟩)))))
  by_cases h6 : nmR byt (wdO byt tsz x) (wdS byt tsz x) (wdE byt tsz x) 6 = 0
  case neg =>
    exact Or.inr (Or.inr (Or.inr (Or.inr (Or.inr (Or.inr (Or.inl ⟨(tk_nm hb (w := 6) (by decide)).mpr h6, k0 (fun v hv => hz 6 (by decide) v (by omega) h6 (by omega)), h6⟩))))))
  by_cases h7 : nmR byt (wdO byt tsz x) (wdS byt tsz x) (wdE byt tsz x) 7 = 0
  case neg =>
    exact Or.inr (Or.inr (Or.inr (Or.inr (Or.inr (Or.inr (Or.inr (Or.inl ⟨(tk_nm hb (w := 7) (by decide)).mpr h7, k0 (fun v hv => hz 7 (by decide) v (by omega) h7 (by omega)), h6, h7⟩)))))))
  by_cases h8 : nmR byt (wdO byt tsz x) (wdS byt tsz x) (wdE byt tsz x) 8 = 0
  case neg =>
    exact Or.inr (Or.inr (Or.inr (Or.inr (Or.inr (Or.inr (Or.inr (Or.inr (Or.inl ⟨(tk_nm hb (w := 8) (by decide)).mpr h8, k0 (fun v hv => hz 8 (by decide) v (by omega) h8 (by omega)), h6, h7, by unfold f_X7_lawNamed; rw [if_neg h8]⟩))))))))
  by_cases h9 : nmR byt (wdO byt tsz x) (wdS byt tsz x) (wdE byt tsz x) 9 = 0
  case neg =>
    exact Or.inr (Or.inr (Or.inr (Or.inr (Or.inr (Or.inr (Or.inr (Or.inr (Or.inr (Or.inl ⟨(tk_nm hb (w := 9) (by decide)).mpr h9, k0 (fun v hv => hz 9 (by decide) v (by omega) h9 (by omega)), h6, h7, by unfold f_X7_lawNamed; rw [if_pos h8, if_neg h9]⟩)))))))))
  by_cases h10 : nmR byt (wdO byt tsz x) (wdS byt tsz x) (wdE byt tsz x) 10 = 0
  case neg =>
    exact Or.inr (Or.inr (Or.inr (Or.inr (Or.inr (Or.inr (Or.inr (Or.inr (Or.inr (Or.inr (Or.inl ⟨(tk_nm hb (w := 10) (by decide)).mpr h10, k0 (fun v hv => hz 10 (by decide) v (by omega) h10 (by omega)), h6, h7, by unfold f_X7_lawNamed; rw [if_pos h8, if_pos h9, if_neg h10]⟩))))))))))
  by_cases h11 : nmR byt (wdO byt tsz x) (wdS byt tsz x) (wdE byt tsz x) 11 = 0
  case neg =>
    exact Or.inr (Or.inr (Or.inr (Or.inr (Or.inr (Or.inr (Or.inr (Or.inr (Or.inr (Or.inr (Or.inr (Or.inl ⟨(tk_nm hb (w := 11) (by decide)).mpr h11, k0 (fun v hv => hz 11 (by decide) v (by omega) h11 (by omega)), h6, h7, by unfold f_X7_lawNamed; rw [if_pos h8, if_pos h9, if_pos h10, if_neg h11]⟩)))))))))))
  have hall : ∀ v, v < 12 → nmR byt (wdO byt tsz x) (wdS byt tsz x) (wdE byt tsz x) v = 0 := fun v hv => by
    rcases (show v = 0 ∨ v = 1 ∨ v = 2 ∨ v = 3 ∨ v = 4 ∨ v = 5 ∨ v = 6 ∨ v = 7 ∨ v = 8 ∨ v = 9 ∨ v = 10 ∨ v = 11 by omega) with rfl | rfl | rfl | rfl | rfl | rfl | rfl | rfl | rfl | rfl | rfl | rfl <;> assumption
  have hno : ∀ (lo hi : Int32) (a c : Nat), lo.toInt = a → hi.toInt = c → c < 12 → nO (tkF byt tsz x) lo hi = 0 := fun lo hi a c ha hc h12 => by
    refine Classical.byContradiction (fun q => ?_)
    have h1 := out_n1 ha hc (nO_1 q)
    have h2 := (tk_nm hb (w := ix (tkF byt tsz x)) (by omega)).mp h1.1
    exact h2 (hall _ (by omega))
  exact Or.inr (Or.inr (Or.inr (Or.inr (Or.inr (Or.inr (Or.inr (Or.inr (Or.inr (Or.inr (Or.inr (Or.inr (⟨⟨hno 0 5 0 5 rfl rfl (by omega), hno 6 7 6 7 rfl rfl (by omega), hno 8 11 8 11 rfl rfl (by omega)⟩, k0 (fun v hv => hall v (by omega)), h6, h7, l0 hall⟩))))))))))))
/-- from where the next sentence's first word is read -/
def rsX (byt : Nat → Int32) (tsz x cn : Nat) : Nat := if f_X7_readSentence tsz byt x cn = 0 then f_X7_readSentence_x tsz byt x cn else wdE byt tsz (f_X7_readSentence_x tsz byt x cn)
theorem hdV_X11_readsGoer : yX11_readsGoer.cls = RX11 ∧ yX11_readsGoer.cls ≠ "java/lang/invoke/MethodHandle" ∧ yX11_readsGoer.cls ≠ "java/lang/invoke/VarHandle" ∧ (parseMethodDescriptor yX11_readsGoer.desc).map (fun d => d.parameters.length) = some 1 := by decide +kernel
theorem hdV_X11_readsRest : yX11_readsRest.cls = RX11 ∧ yX11_readsRest.cls ≠ "java/lang/invoke/MethodHandle" ∧ yX11_readsRest.cls ≠ "java/lang/invoke/VarHandle" ∧ (parseMethodDescriptor yX11_readsRest.desc).map (fun d => d.parameters.length) = some 1 := by decide +kernel
theorem hdV_X11_readsLaw : yX11_readsLaw.cls = RX11 ∧ yX11_readsLaw.cls ≠ "java/lang/invoke/MethodHandle" ∧ yX11_readsLaw.cls ≠ "java/lang/invoke/VarHandle" ∧ (parseMethodDescriptor yX11_readsLaw.desc).map (fun d => d.parameters.length) = some 1 := by decide +kernel
abbrev rmX11_readsOne : Room := { frames := 6, cells := 0, slots := 0, locals := 132 }
set_option maxHeartbeats 4000000 in
set_option maxRecDepth 100000 in
theorem c_X11_readsOne (l : Launch) (g : GG) (oh : Nat) (os : Nat) (ok : Nat) (ol : Nat) (ord : Nat) (odd : Nat) (otp : Nat) (olt : Nat) (orw : Nat) (oso : Nat) (osz : Nat) (oit : Nat) (oho : Nat) (ohe : Nat) (otr : Nat) (stp : Nat) (laws : Nat → Int32) (z : Int32) (cnt : Nat) (fogs : Nat → Int32) (arms : Nat → Int32) (kinds : Nat → Int32) (faiths : Nat → Int32) (places : Nat → Int32) (moved : Nat → Int32) (isk : Int32) (tpd : Nat) (ovl : Int32) (rmn : Nat) (tcd : Nat) (own_ : Int32) (opt : Int32) (byt : Nat → Int32) (x0 : Nat) (qstp : Nat) (qlaws : Nat → Int32) (qz : Int32) (qcnt : Nat) (qfogs : Nat → Int32) (qarms : Nat → Int32) (qkinds : Nat → Int32) (qfaiths : Nat → Int32) (qplaces : Nat → Int32) (qmoved : Nat → Int32) (htz : tpd ≤ 200) (hby : ∀ j, isB (byt j)) (hx0 : x0 ≤ tpd) (hvl : vOk byt tpd x0 ovl) (hcn : qcnt ≤ 8) : mtR l g yX11_readsOne wsX11_readsOne rmX11_readsOne [.ref oh] [cob oh 11 [.ref os, .ref ok, .ref ol, .ref ord, .int isk, .ref odd, .ref otp, .int (nI tpd), .ref olt, .int (nI (wdE byt tpd x0)), .int (nI (wdS byt tpd x0)), .int (tkF byt tpd x0), .int ovl, .ref orw, .int (nI rmn), .ref oso, .ref osz, .ref oit, .ref oho, .ref ohe, .ref otr, .int (nI tcd), .int own_, .int opt], cin g os 51 (mR stp laws z cnt fogs arms kinds faiths places moved), cin g ord 51 (mR qstp qlaws qz qcnt qfogs qarms qkinds qfaiths qplaces qmoved), cin g otp 200 (ubT byt), cch g olt 120 mlet] (fun rv W => rv = (some (.int (f_X7_readSentence tpd byt x0 qcnt))) ∧ ∃ (j0 : Int32) (j1 : Nat → Int32), (vOk byt tpd (rsX byt tpd x0 qcnt) j0 ∧ (¬ (f_X7_readSentence tpd byt x0 qcnt) = 0 → j1 = mR qstp (f_X7_readSentence_w2 tpd byt x0 qlaws) qz (f_X7_readSentence_w1 tpd byt x0 qcnt) (f_X7_readSentence_w3 tpd byt x0 qfogs) (f_X7_readSentence_w4 tpd byt x0 qarms) (f_X7_readSentence_w5 tpd byt x0 qkinds qcnt) (f_X7_readSentence_w6 tpd byt x0 qfaiths qcnt) (f_X7_readSentence_w7 tpd byt x0 qplaces qcnt) qmoved)) ∧ W = [cob oh 11 [.ref os, .ref ok, .ref ol, .ref ord, .int isk, .ref odd, .ref otp, .int (nI tpd), .ref olt, .int (nI (wdE byt tpd (rsX byt tpd x0 qcnt))), .int (nI (wdS byt tpd (rsX byt tpd x0 qcnt))), .int (tkF byt tpd (rsX byt tpd x0 qcnt)), .int j0, .ref orw, .int (nI rmn), .ref oso, .ref osz, .ref oit, .ref oho, .ref ohe, .ref otr, .int (nI tcd), .int own_, .int opt], cin g os 51 (mR stp laws z cnt fogs arms kinds faiths places moved), cin g ord 51 j1, cin g otp 200 (ubT byt), cch g olt 120 mlet]) := by
  refine mtR.of (cc := cX11_readsOne) (nL := 2) (ret := (some .boolean)) (own := RX11) (by decide +kernel) rfl rfl (Nat.le_of_ble_eq_true rfl) (fun p e s m below meth c hf hr hlk _ hk hst hw ls hl => ?_)
  have hx := hf.1
  have hb := hf.2.1
  have hts := hf.2.2.2.2
  have hl : lv_has ls 2 [(0, .ref oh)] := hl
  have h1 := wdE_b byt htz hx0
  have h2 := wdE_b byt htz h1.2
  have h3 := wdE_b byt htz h2.2
  have h4 := wdE_b byt htz h3.2
  have h5 := wdE_b byt htz h4.2
  have h6 := wdE_b byt htz h5.2
  have hg_x := rg_x byt qcnt htz hx0
  have ho_x := ro_x byt htz hx0
  have hl_x0 := lw_x byt 0 htz hx0
  have hl_x1 := lw_x byt 1 htz hx0
  have hl_x2 := lw_x byt 2 htz hx0
  have hl_x3 := lw_x byt 3 htz hx0
  have hinX11 : ∀ w ∈ u_ws RX11 TX11 24, w ∈ wsX11_readsOne := fun w h => List.mem_cons_of_mem _ (List.mem_append_right _ h)
  have w_0 : Cond.fieldLink RX11 119 "LightManModel" "token" "I" ∈ wsX11_readsOne := List.mem_of_getElem? (i := 1) rfl
  rcases (tk_split hby tpd x0) with e_1 | e_1 | e_1 | e_1 | e_1 | e_1 | e_1 | e_1 | e_1 | e_1 | e_1 | e_1 | e_1
  · refine lv_iconst (v := 0) hx hb dX11_readsOne_0 (by decide) ?_
    refine lv_istore_n (lv' := [(1, .int 0), (0, .ref oh)]) hx hb dX11_readsOne_1 rfl hl (by decide) rfl (fun ls hl => ?_)
    refine lv_aload_n hx hb dX11_readsOne_2 rfl (lv_at hl 1 rfl) ?_
    refine rg hf hk hw hinX11 0 rfl rfl 11 (by decide) w_0 rfl dX11_readsOne_3 ?_
    refine lv_tope (y := 0) (e_1.1) ?_
    refine lv_iconst (v := 0) hx hb dX11_readsOne_6 (by decide) ?_
    refine lv_iconst (v := 5) hx hb dX11_readsOne_7 (by decide) ?_
    refine mcS hf hk hst hw (c_X11_in1 l g 0 0 5) (va_cwS 3 hts gX11_readsOne_X11_in1 rfl rfl rfl hdS_X11_in1 ⟨Nat.le_of_ble_eq_true rfl, Nat.le_of_ble_eq_true rfl⟩) [] rfl rfl rfl hl.1 rfl (Nat.le_of_ble_eq_true rfl) dX11_readsOne_8 ⟨Nat.zero_le _, Nat.zero_le _⟩ (W' := [cob oh 11 [.ref os, .ref ok, .ref ol, .ref ord, .int isk, .ref odd, .ref otp, .int (nI tpd), .ref olt, .int (nI (wdE byt tpd x0)), .int (nI (wdS byt tpd x0)), .int (tkF byt tpd x0), .int ovl, .ref orw, .int (nI rmn), .ref oso, .ref osz, .ref oit, .ref oho, .ref ohe, .ref otr, .int (nI tcd), .int own_, .int opt], cin g os 51 (mR stp laws z cnt fogs arms kinds faiths places moved), cin g ord 51 (mR qstp qlaws qz qcnt qfogs qarms qkinds qfaiths qplaces qmoved), cin g otp 200 (ubT byt), cch g olt 120 mlet]) rfl (fun H locs hw => ?_)
    refine lv_if_eq (tgt := 26) hx hb dX11_readsOne_11 (by decide) (fun q => absurd q (by decide)) (fun _ => ?_)
    refine lv_aload_n hx hb dX11_readsOne_14 rfl (lv_at hl 1 rfl) ?_
    refine lv_aload_n hx hb dX11_readsOne_15 rfl (lv_at hl 1 rfl) ?_
    refine rg hf hk hw hinX11 0 rfl rfl 11 (by decide) w_0 rfl dX11_readsOne_16 ?_
    refine lv_tope (y := 0) (e_1.1) ?_
    refine mcVF hf hk hst hw (c_X11_readsGoer l g oh os ok ol ord odd otp olt orw oso osz oit oho ohe otr stp laws z cnt fogs arms kinds faiths places moved isk tpd ovl rmn tcd own_ opt byt x0 qstp qlaws qz qcnt qfogs qarms qkinds qfaiths qplaces qmoved 0 (by omega) (by assumption) (by omega) (hvl) (by omega)) (cwV 1 hts gX11_readsOne_X11_readsGoer rfl rfl rfl hdV_X11_readsGoer ⟨Nat.le_of_ble_eq_true rfl, Nat.le_of_ble_eq_true rfl⟩) 0 rfl rfl rfl hl.1 rfl (Nat.le_of_ble_eq_true rfl) dX11_readsOne_19 ⟨Nat.zero_le _, Nat.zero_le _⟩ (fun rv ws2 hPo H locs hw => ?_)
    obtain ⟨rfl, u2_j0, u2_j1, u2_s, rfl⟩ := hPo
    refine lv_istore_n (lv' := [(1, .int (rgF byt tpd x0 qcnt)), (0, .ref oh)]) hx hb dX11_readsOne_22 rfl hl (by decide) rfl (fun ls hl => ?_)
    refine lv_goto (tgt := 92) hx hb dX11_readsOne_23 (by decide) ?_
    refine lv_iload_n hx hb dX11_readsOne_92 rfl (lv_at hl 0 rfl) ?_
    refine lv_if_eq (tgt := 110) hx hb dX11_readsOne_93 (by decide) (fun c_3 => ?_) (fun c_3 => ?_)
    · refine lv_iconst (v := 0) hx hb dX11_readsOne_110 (by decide) ?_
      have hR := rsG (byt := byt) (tsz := tpd) (x := x0) (cn := qcnt) (la := qlaws) (fo := qfogs) (ar := qarms) (ki := qkinds) (fs := qfaiths) (ps := qplaces) (hk := by rw [e_1.2]; decide)
      have h0 := hR.1.trans (if_pos c_3)
      exact rE_z hf hr hlk hw (rfl) ⟨congrArg some (by rw [h0]), u2_j0, u2_j1, ⟨by unfold rsX; rw [h0, if_pos rfl, hR.2.1]; exact u2_s.1, fun h => absurd h0 h⟩, by unfold rsX; rw [h0, if_pos rfl, hR.2.1]⟩ (show ([oh, os, ord, otp, olt] : List Nat) = [oh, os, ord, otp, olt] from rfl) dX11_readsOne_111
    · refine lv_aload_n hx hb dX11_readsOne_96 rfl (lv_at hl 1 rfl) ?_
      refine lv_sipush (v := 259) hx hb dX11_readsOne_97 (by decide) ?_
      by_cases c_4 : f_X7_isSemicolon (wdO byt tpd (f_X7_readGoer_x tpd byt x0 qcnt)) (wdS byt tpd (f_X7_readGoer_x tpd byt x0 qcnt)) byt = 0
      · refine mcVF hf hk hst hw (c_X11_takesN l g oh os ok ol ord odd otp olt orw oso osz oit oho ohe otr stp laws z cnt fogs arms kinds faiths places moved isk tpd u2_j0 rmn tcd own_ opt u2_j1 byt (f_X7_readGoer_x tpd byt x0 qcnt) 259 (by omega) (by assumption) (by omega) (u2_s.1) (fun h => (tk_semi hby).mp h c_4)) (cwV 1 hts gX11_readsOne_X11_takes rfl rfl rfl hdV_X11_takes ⟨Nat.le_of_ble_eq_true rfl, Nat.le_of_ble_eq_true rfl⟩) 0 rfl rfl rfl hl.1 rfl (Nat.le_of_ble_eq_true rfl) dX11_readsOne_100 ⟨Nat.zero_le _, Nat.zero_le _⟩ (fun rv ws2 hPo H locs hw => ?_)
        obtain ⟨rfl, u5_j0, u5_s, rfl⟩ := hPo
        refine lv_if_eq (tgt := 110) hx hb dX11_readsOne_103 (by decide) (fun _ => ?_) (fun q => absurd (by decide) q)
        refine lv_iconst (v := 0) hx hb dX11_readsOne_110 (by decide) ?_
        have hR := rsG (byt := byt) (tsz := tpd) (x := x0) (cn := qcnt) (la := qlaws) (fo := qfogs) (ar := qarms) (ki := qkinds) (fs := qfaiths) (ps := qplaces) (hk := by rw [e_1.2]; decide)
        have h0 := hR.1.trans ((if_neg c_3).trans (if_pos c_4))
        exact rE_z hf hr hlk hw (rfl) ⟨congrArg some (by rw [h0]), u5_j0, u2_j1, ⟨by unfold rsX; rw [h0, if_pos rfl, hR.2.1]; exact u5_s, fun h => absurd h0 h⟩, by unfold rsX; rw [h0, if_pos rfl, hR.2.1]⟩ (show ([oh, os, ord, otp, olt] : List Nat) = [oh, os, ord, otp, olt] from rfl) dX11_readsOne_111
      · refine mcVF hf hk hst hw (c_X11_takesY l g oh os ok ol ord odd otp olt orw oso osz oit oho ohe otr stp laws z cnt fogs arms kinds faiths places moved isk tpd u2_j0 rmn tcd own_ opt u2_j1 byt (f_X7_readGoer_x tpd byt x0 qcnt) 259 (by omega) (by assumption) (by omega) (u2_s.1) ((tk_semi hby).mpr c_4)) (cwV 1 hts gX11_readsOne_X11_takes rfl rfl rfl hdV_X11_takes ⟨Nat.le_of_ble_eq_true rfl, Nat.le_of_ble_eq_true rfl⟩) 0 rfl rfl rfl hl.1 rfl (Nat.le_of_ble_eq_true rfl) dX11_readsOne_100 ⟨Nat.zero_le _, Nat.zero_le _⟩ (fun rv ws2 hPo H locs hw => ?_)
        obtain ⟨rfl, u6_j0, u6_s, rfl⟩ := hPo
        refine lv_if_eq (tgt := 110) hx hb dX11_readsOne_103 (by decide) (fun q => absurd q (by decide)) (fun _ => ?_)
        refine lv_iconst (v := 1) hx hb dX11_readsOne_106 (by decide) ?_
        refine lv_goto (tgt := 111) hx hb dX11_readsOne_107 (by decide) ?_
        have hR := rsG (byt := byt) (tsz := tpd) (x := x0) (cn := qcnt) (la := qlaws) (fo := qfogs) (ar := qarms) (ki := qkinds) (fs := qfaiths) (ps := qplaces) (hk := by rw [e_1.2]; decide)
        have h1 := hR.1.trans ((if_neg c_3).trans (if_neg c_4))
        obtain ⟨⟨r1, r2, r3, r4, r5, r6, r7⟩, -⟩ := hR.2.2 c_3 c_4
        exact rE_z hf hr hlk hw (rfl) ⟨congrArg some (by rw [h1]), u6_j0, u2_j1, ⟨by unfold rsX; rw [h1, if_neg (by decide), hR.2.1]; exact u6_s, fun _ => by rw [u2_s.2 c_3, r1, r2, r3, r4, r5, r6, r7, e_1.2]⟩, by unfold rsX; rw [h1, if_neg (by decide), hR.2.1]⟩ (show ([oh, os, ord, otp, olt] : List Nat) = [oh, os, ord, otp, olt] from rfl) dX11_readsOne_111
  · refine lv_iconst (v := 0) hx hb dX11_readsOne_0 (by decide) ?_
    refine lv_istore_n (lv' := [(1, .int 0), (0, .ref oh)]) hx hb dX11_readsOne_1 rfl hl (by decide) rfl (fun ls hl => ?_)
    refine lv_aload_n hx hb dX11_readsOne_2 rfl (lv_at hl 1 rfl) ?_
    refine rg hf hk hw hinX11 0 rfl rfl 11 (by decide) w_0 rfl dX11_readsOne_3 ?_
    refine lv_tope (y := 1) (e_1.1) ?_
    refine lv_iconst (v := 0) hx hb dX11_readsOne_6 (by decide) ?_
    refine lv_iconst (v := 5) hx hb dX11_readsOne_7 (by decide) ?_
    refine mcS hf hk hst hw (c_X11_in1 l g 1 0 5) (va_cwS 3 hts gX11_readsOne_X11_in1 rfl rfl rfl hdS_X11_in1 ⟨Nat.le_of_ble_eq_true rfl, Nat.le_of_ble_eq_true rfl⟩) [] rfl rfl rfl hl.1 rfl (Nat.le_of_ble_eq_true rfl) dX11_readsOne_8 ⟨Nat.zero_le _, Nat.zero_le _⟩ (W' := [cob oh 11 [.ref os, .ref ok, .ref ol, .ref ord, .int isk, .ref odd, .ref otp, .int (nI tpd), .ref olt, .int (nI (wdE byt tpd x0)), .int (nI (wdS byt tpd x0)), .int (tkF byt tpd x0), .int ovl, .ref orw, .int (nI rmn), .ref oso, .ref osz, .ref oit, .ref oho, .ref ohe, .ref otr, .int (nI tcd), .int own_, .int opt], cin g os 51 (mR stp laws z cnt fogs arms kinds faiths places moved), cin g ord 51 (mR qstp qlaws qz qcnt qfogs qarms qkinds qfaiths qplaces qmoved), cin g otp 200 (ubT byt), cch g olt 120 mlet]) rfl (fun H locs hw => ?_)
    refine lv_if_eq (tgt := 26) hx hb dX11_readsOne_11 (by decide) (fun q => absurd q (by decide)) (fun _ => ?_)
    refine lv_aload_n hx hb dX11_readsOne_14 rfl (lv_at hl 1 rfl) ?_
    refine lv_aload_n hx hb dX11_readsOne_15 rfl (lv_at hl 1 rfl) ?_
    refine rg hf hk hw hinX11 0 rfl rfl 11 (by decide) w_0 rfl dX11_readsOne_16 ?_
    refine lv_tope (y := 1) (e_1.1) ?_
    refine mcVF hf hk hst hw (c_X11_readsGoer l g oh os ok ol ord odd otp olt orw oso osz oit oho ohe otr stp laws z cnt fogs arms kinds faiths places moved isk tpd ovl rmn tcd own_ opt byt x0 qstp qlaws qz qcnt qfogs qarms qkinds qfaiths qplaces qmoved 1 (by omega) (by assumption) (by omega) (hvl) (by omega)) (cwV 1 hts gX11_readsOne_X11_readsGoer rfl rfl rfl hdV_X11_readsGoer ⟨Nat.le_of_ble_eq_true rfl, Nat.le_of_ble_eq_true rfl⟩) 0 rfl rfl rfl hl.1 rfl (Nat.le_of_ble_eq_true rfl) dX11_readsOne_19 ⟨Nat.zero_le _, Nat.zero_le _⟩ (fun rv ws2 hPo H locs hw => ?_)
    obtain ⟨rfl, u7_j0, u7_j1, u7_s, rfl⟩ := hPo
    refine lv_istore_n (lv' := [(1, .int (rgF byt tpd x0 qcnt)), (0, .ref oh)]) hx hb dX11_readsOne_22 rfl hl (by decide) rfl (fun ls hl => ?_)
    refine lv_goto (tgt := 92) hx hb dX11_readsOne_23 (by decide) ?_
    refine lv_iload_n hx hb dX11_readsOne_92 rfl (lv_at hl 0 rfl) ?_
    refine lv_if_eq (tgt := 110) hx hb dX11_readsOne_93 (by decide) (fun c_8 => ?_) (fun c_8 => ?_)
    · refine lv_iconst (v := 0) hx hb dX11_readsOne_110 (by decide) ?_
      have hR := rsG (byt := byt) (tsz := tpd) (x := x0) (cn := qcnt) (la := qlaws) (fo := qfogs) (ar := qarms) (ki := qkinds) (fs := qfaiths) (ps := qplaces) (hk := by rw [e_1.2]; decide)
      have h0 := hR.1.trans (if_pos c_8)
      exact rE_z hf hr hlk hw (rfl) ⟨congrArg some (by rw [h0]), u7_j0, u7_j1, ⟨by unfold rsX; rw [h0, if_pos rfl, hR.2.1]; exact u7_s.1, fun h => absurd h0 h⟩, by unfold rsX; rw [h0, if_pos rfl, hR.2.1]⟩ (show ([oh, os, ord, otp, olt] : List Nat) = [oh, os, ord, otp, olt] from rfl) dX11_readsOne_111
    · refine lv_aload_n hx hb dX11_readsOne_96 rfl (lv_at hl 1 rfl) ?_
      refine lv_sipush (v := 259) hx hb dX11_readsOne_97 (by decide) ?_
      by_cases c_9 : f_X7_isSemicolon (wdO byt tpd (f_X7_readGoer_x tpd byt x0 qcnt)) (wdS byt tpd (f_X7_readGoer_x tpd byt x0 qcnt)) byt = 0
      · refine mcVF hf hk hst hw (c_X11_takesN l g oh os ok ol ord odd otp olt orw oso osz oit oho ohe otr stp laws z cnt fogs arms kinds faiths places moved isk tpd u7_j0 rmn tcd own_ opt u7_j1 byt (f_X7_readGoer_x tpd byt x0 qcnt) 259 (by omega) (by assumption) (by omega) (u7_s.1) (fun h => (tk_semi hby).mp h c_9)) (cwV 1 hts gX11_readsOne_X11_takes rfl rfl rfl hdV_X11_takes ⟨Nat.le_of_ble_eq_true rfl, Nat.le_of_ble_eq_true rfl⟩) 0 rfl rfl rfl hl.1 rfl (Nat.le_of_ble_eq_true rfl) dX11_readsOne_100 ⟨Nat.zero_le _, Nat.zero_le _⟩ (fun rv ws2 hPo H locs hw => ?_)
        obtain ⟨rfl, u10_j0, u10_s, rfl⟩ := hPo
        refine lv_if_eq (tgt := 110) hx hb dX11_readsOne_103 (by decide) (fun _ => ?_) (fun q => absurd (by decide) q)
        refine lv_iconst (v := 0) hx hb dX11_readsOne_110 (by decide) ?_
        have hR := rsG (byt := byt) (tsz := tpd) (x := x0) (cn := qcnt) (la := qlaws) (fo := qfogs) (ar := qarms) (ki := qkinds) (fs := qfaiths) (ps := qplaces) (hk := by rw [e_1.2]; decide)
        have h0 := hR.1.trans ((if_neg c_8).trans (if_pos c_9))
        exact rE_z hf hr hlk hw (rfl) ⟨congrArg some (by rw [h0]), u10_j0, u7_j1, ⟨by unfold rsX; rw [h0, if_pos rfl, hR.2.1]; exact u10_s, fun h => absurd h0 h⟩, by unfold rsX; rw [h0, if_pos rfl, hR.2.1]⟩ (show ([oh, os, ord, otp, olt] : List Nat) = [oh, os, ord, otp, olt] from rfl) dX11_readsOne_111
      · refine mcVF hf hk hst hw (c_X11_takesY l g oh os ok ol ord odd otp olt orw oso osz oit oho ohe otr stp laws z cnt fogs arms kinds faiths places moved isk tpd u7_j0 rmn tcd own_ opt u7_j1 byt (f_X7_readGoer_x tpd byt x0 qcnt) 259 (by omega) (by assumption) (by omega) (u7_s.1) ((tk_semi hby).mpr c_9)) (cwV 1 hts gX11_readsOne_X11_takes rfl rfl rfl hdV_X11_takes ⟨Nat.le_of_ble_eq_true rfl, Nat.le_of_ble_eq_true rfl⟩) 0 rfl rfl rfl hl.1 rfl (Nat.le_of_ble_eq_true rfl) dX11_readsOne_100 ⟨Nat.zero_le _, Nat.zero_le _⟩ (fun rv ws2 hPo H locs hw => ?_)
        obtain ⟨rfl, u11_j0, u11_s, rfl⟩ := hPo
        refine lv_if_eq (tgt := 110) hx hb dX11_readsOne_103 (by decide) (fun q => absurd q (by decide)) (fun _ => ?_)
        refine lv_iconst (v := 1) hx hb dX11_readsOne_106 (by decide) ?_
        refine lv_goto (tgt := 111) hx hb dX11_readsOne_107 (by decide) ?_
        have hR := rsG (byt := byt) (tsz := tpd) (x := x0) (cn := qcnt) (la := qlaws) (fo := qfogs) (ar := qarms) (ki := qkinds) (fs := qfaiths) (ps := qplaces) (hk := by rw [e_1.2]; decide)
        have h1 := hR.1.trans ((if_neg c_8).trans (if_neg c_9))
        obtain ⟨⟨r1, r2, r3, r4, r5, r6, r7⟩, -⟩ := hR.2.2 c_8 c_9
        exact rE_z hf hr hlk hw (rfl) ⟨congrArg some (by rw [h1]), u11_j0, u7_j1, ⟨by unfold rsX; rw [h1, if_neg (by decide), hR.2.1]; exact u11_s, fun _ => by rw [u7_s.2 c_8, r1, r2, r3, r4, r5, r6, r7, e_1.2]⟩, by unfold rsX; rw [h1, if_neg (by decide), hR.2.1]⟩ (show ([oh, os, ord, otp, olt] : List Nat) = [oh, os, ord, otp, olt] from rfl) dX11_readsOne_111
  · refine lv_iconst (v := 0) hx hb dX11_readsOne_0 (by decide) ?_
    refine lv_istore_n (lv' := [(1, .int 0), (0, .ref oh)]) hx hb dX11_readsOne_1 rfl hl (by decide) rfl (fun ls hl => ?_)
    refine lv_aload_n hx hb dX11_readsOne_2 rfl (lv_at hl 1 rfl) ?_
    refine rg hf hk hw hinX11 0 rfl rfl 11 (by decide) w_0 rfl dX11_readsOne_3 ?_
    refine lv_tope (y := 2) (e_1.1) ?_
    refine lv_iconst (v := 0) hx hb dX11_readsOne_6 (by decide) ?_
    refine lv_iconst (v := 5) hx hb dX11_readsOne_7 (by decide) ?_
    refine mcS hf hk hst hw (c_X11_in1 l g 2 0 5) (va_cwS 3 hts gX11_readsOne_X11_in1 rfl rfl rfl hdS_X11_in1 ⟨Nat.le_of_ble_eq_true rfl, Nat.le_of_ble_eq_true rfl⟩) [] rfl rfl rfl hl.1 rfl (Nat.le_of_ble_eq_true rfl) dX11_readsOne_8 ⟨Nat.zero_le _, Nat.zero_le _⟩ (W' := [cob oh 11 [.ref os, .ref ok, .ref ol, .ref ord, .int isk, .ref odd, .ref otp, .int (nI tpd), .ref olt, .int (nI (wdE byt tpd x0)), .int (nI (wdS byt tpd x0)), .int (tkF byt tpd x0), .int ovl, .ref orw, .int (nI rmn), .ref oso, .ref osz, .ref oit, .ref oho, .ref ohe, .ref otr, .int (nI tcd), .int own_, .int opt], cin g os 51 (mR stp laws z cnt fogs arms kinds faiths places moved), cin g ord 51 (mR qstp qlaws qz qcnt qfogs qarms qkinds qfaiths qplaces qmoved), cin g otp 200 (ubT byt), cch g olt 120 mlet]) rfl (fun H locs hw => ?_)
    refine lv_if_eq (tgt := 26) hx hb dX11_readsOne_11 (by decide) (fun q => absurd q (by decide)) (fun _ => ?_)
    refine lv_aload_n hx hb dX11_readsOne_14 rfl (lv_at hl 1 rfl) ?_
    refine lv_aload_n hx hb dX11_readsOne_15 rfl (lv_at hl 1 rfl) ?_
    refine rg hf hk hw hinX11 0 rfl rfl 11 (by decide) w_0 rfl dX11_readsOne_16 ?_
    refine lv_tope (y := 2) (e_1.1) ?_
    refine mcVF hf hk hst hw (c_X11_readsGoer l g oh os ok ol ord odd otp olt orw oso osz oit oho ohe otr stp laws z cnt fogs arms kinds faiths places moved isk tpd ovl rmn tcd own_ opt byt x0 qstp qlaws qz qcnt qfogs qarms qkinds qfaiths qplaces qmoved 2 (by omega) (by assumption) (by omega) (hvl) (by omega)) (cwV 1 hts gX11_readsOne_X11_readsGoer rfl rfl rfl hdV_X11_readsGoer ⟨Nat.le_of_ble_eq_true rfl, Nat.le_of_ble_eq_true rfl⟩) 0 rfl rfl rfl hl.1 rfl (Nat.le_of_ble_eq_true rfl) dX11_readsOne_19 ⟨Nat.zero_le _, Nat.zero_le _⟩ (fun rv ws2 hPo H locs hw => ?_)
    obtain ⟨rfl, u12_j0, u12_j1, u12_s, rfl⟩ := hPo
    refine lv_istore_n (lv' := [(1, .int (rgF byt tpd x0 qcnt)), (0, .ref oh)]) hx hb dX11_readsOne_22 rfl hl (by decide) rfl (fun ls hl => ?_)
    refine lv_goto (tgt := 92) hx hb dX11_readsOne_23 (by decide) ?_
    refine lv_iload_n hx hb dX11_readsOne_92 rfl (lv_at hl 0 rfl) ?_
    refine lv_if_eq (tgt := 110) hx hb dX11_readsOne_93 (by decide) (fun c_13 => ?_) (fun c_13 => ?_)
    · refine lv_iconst (v := 0) hx hb dX11_readsOne_110 (by decide) ?_
      have hR := rsG (byt := byt) (tsz := tpd) (x := x0) (cn := qcnt) (la := qlaws) (fo := qfogs) (ar := qarms) (ki := qkinds) (fs := qfaiths) (ps := qplaces) (hk := by rw [e_1.2]; decide)
      have h0 := hR.1.trans (if_pos c_13)
      exact rE_z hf hr hlk hw (rfl) ⟨congrArg some (by rw [h0]), u12_j0, u12_j1, ⟨by unfold rsX; rw [h0, if_pos rfl, hR.2.1]; exact u12_s.1, fun h => absurd h0 h⟩, by unfold rsX; rw [h0, if_pos rfl, hR.2.1]⟩ (show ([oh, os, ord, otp, olt] : List Nat) = [oh, os, ord, otp, olt] from rfl) dX11_readsOne_111
    · refine lv_aload_n hx hb dX11_readsOne_96 rfl (lv_at hl 1 rfl) ?_
      refine lv_sipush (v := 259) hx hb dX11_readsOne_97 (by decide) ?_
      by_cases c_14 : f_X7_isSemicolon (wdO byt tpd (f_X7_readGoer_x tpd byt x0 qcnt)) (wdS byt tpd (f_X7_readGoer_x tpd byt x0 qcnt)) byt = 0
      · refine mcVF hf hk hst hw (c_X11_takesN l g oh os ok ol ord odd otp olt orw oso osz oit oho ohe otr stp laws z cnt fogs arms kinds faiths places moved isk tpd u12_j0 rmn tcd own_ opt u12_j1 byt (f_X7_readGoer_x tpd byt x0 qcnt) 259 (by omega) (by assumption) (by omega) (u12_s.1) (fun h => (tk_semi hby).mp h c_14)) (cwV 1 hts gX11_readsOne_X11_takes rfl rfl rfl hdV_X11_takes ⟨Nat.le_of_ble_eq_true rfl, Nat.le_of_ble_eq_true rfl⟩) 0 rfl rfl rfl hl.1 rfl (Nat.le_of_ble_eq_true rfl) dX11_readsOne_100 ⟨Nat.zero_le _, Nat.zero_le _⟩ (fun rv ws2 hPo H locs hw => ?_)
        obtain ⟨rfl, u15_j0, u15_s, rfl⟩ := hPo
        refine lv_if_eq (tgt := 110) hx hb dX11_readsOne_103 (by decide) (fun _ => ?_) (fun q => absurd (by decide) q)
        refine lv_iconst (v := 0) hx hb dX11_readsOne_110 (by decide) ?_
        have hR := rsG (byt := byt) (tsz := tpd) (x := x0) (cn := qcnt) (la := qlaws) (fo := qfogs) (ar := qarms) (ki := qkinds) (fs := qfaiths) (ps := qplaces) (hk := by rw [e_1.2]; decide)
        have h0 := hR.1.trans ((if_neg c_13).trans (if_pos c_14))
        exact rE_z hf hr hlk hw (rfl) ⟨congrArg some (by rw [h0]), u15_j0, u12_j1, ⟨by unfold rsX; rw [h0, if_pos rfl, hR.2.1]; exact u15_s, fun h => absurd h0 h⟩, by unfold rsX; rw [h0, if_pos rfl, hR.2.1]⟩ (show ([oh, os, ord, otp, olt] : List Nat) = [oh, os, ord, otp, olt] from rfl) dX11_readsOne_111
      · refine mcVF hf hk hst hw (c_X11_takesY l g oh os ok ol ord odd otp olt orw oso osz oit oho ohe otr stp laws z cnt fogs arms kinds faiths places moved isk tpd u12_j0 rmn tcd own_ opt u12_j1 byt (f_X7_readGoer_x tpd byt x0 qcnt) 259 (by omega) (by assumption) (by omega) (u12_s.1) ((tk_semi hby).mpr c_14)) (cwV 1 hts gX11_readsOne_X11_takes rfl rfl rfl hdV_X11_takes ⟨Nat.le_of_ble_eq_true rfl, Nat.le_of_ble_eq_true rfl⟩) 0 rfl rfl rfl hl.1 rfl (Nat.le_of_ble_eq_true rfl) dX11_readsOne_100 ⟨Nat.zero_le _, Nat.zero_le _⟩ (fun rv ws2 hPo H locs hw => ?_)
        obtain ⟨rfl, u16_j0, u16_s, rfl⟩ := hPo
        refine lv_if_eq (tgt := 110) hx hb dX11_readsOne_103 (by decide) (fun q => absurd q (by decide)) (fun _ => ?_)
        refine lv_iconst (v := 1) hx hb dX11_readsOne_106 (by decide) ?_
        refine lv_goto (tgt := 111) hx hb dX11_readsOne_107 (by decide) ?_
        have hR := rsG (byt := byt) (tsz := tpd) (x := x0) (cn := qcnt) (la := qlaws) (fo := qfogs) (ar := qarms) (ki := qkinds) (fs := qfaiths) (ps := qplaces) (hk := by rw [e_1.2]; decide)
        have h1 := hR.1.trans ((if_neg c_13).trans (if_neg c_14))
        obtain ⟨⟨r1, r2, r3, r4, r5, r6, r7⟩, -⟩ := hR.2.2 c_13 c_14
        exact rE_z hf hr hlk hw (rfl) ⟨congrArg some (by rw [h1]), u16_j0, u12_j1, ⟨by unfold rsX; rw [h1, if_neg (by decide), hR.2.1]; exact u16_s, fun _ => by rw [u12_s.2 c_13, r1, r2, r3, r4, r5, r6, r7, e_1.2]⟩, by unfold rsX; rw [h1, if_neg (by decide), hR.2.1]⟩ (show ([oh, os, ord, otp, olt] : List Nat) = [oh, os, ord, otp, olt] from rfl) dX11_readsOne_111
  · refine lv_iconst (v := 0) hx hb dX11_readsOne_0 (by decide) ?_
    refine lv_istore_n (lv' := [(1, .int 0), (0, .ref oh)]) hx hb dX11_readsOne_1 rfl hl (by decide) rfl (fun ls hl => ?_)
    refine lv_aload_n hx hb dX11_readsOne_2 rfl (lv_at hl 1 rfl) ?_
    refine rg hf hk hw hinX11 0 rfl rfl 11 (by decide) w_0 rfl dX11_readsOne_3 ?_
    refine lv_tope (y := 3) (e_1.1) ?_
    refine lv_iconst (v := 0) hx hb dX11_readsOne_6 (by decide) ?_
    refine lv_iconst (v := 5) hx hb dX11_readsOne_7 (by decide) ?_
    refine mcS hf hk hst hw (c_X11_in1 l g 3 0 5) (va_cwS 3 hts gX11_readsOne_X11_in1 rfl rfl rfl hdS_X11_in1 ⟨Nat.le_of_ble_eq_true rfl, Nat.le_of_ble_eq_true rfl⟩) [] rfl rfl rfl hl.1 rfl (Nat.le_of_ble_eq_true rfl) dX11_readsOne_8 ⟨Nat.zero_le _, Nat.zero_le _⟩ (W' := [cob oh 11 [.ref os, .ref ok, .ref ol, .ref ord, .int isk, .ref odd, .ref otp, .int (nI tpd), .ref olt, .int (nI (wdE byt tpd x0)), .int (nI (wdS byt tpd x0)), .int (tkF byt tpd x0), .int ovl, .ref orw, .int (nI rmn), .ref oso, .ref osz, .ref oit, .ref oho, .ref ohe, .ref otr, .int (nI tcd), .int own_, .int opt], cin g os 51 (mR stp laws z cnt fogs arms kinds faiths places moved), cin g ord 51 (mR qstp qlaws qz qcnt qfogs qarms qkinds qfaiths qplaces qmoved), cin g otp 200 (ubT byt), cch g olt 120 mlet]) rfl (fun H locs hw => ?_)
    refine lv_if_eq (tgt := 26) hx hb dX11_readsOne_11 (by decide) (fun q => absurd q (by decide)) (fun _ => ?_)
    refine lv_aload_n hx hb dX11_readsOne_14 rfl (lv_at hl 1 rfl) ?_
    refine lv_aload_n hx hb dX11_readsOne_15 rfl (lv_at hl 1 rfl) ?_
    refine rg hf hk hw hinX11 0 rfl rfl 11 (by decide) w_0 rfl dX11_readsOne_16 ?_
    refine lv_tope (y := 3) (e_1.1) ?_
    refine mcVF hf hk hst hw (c_X11_readsGoer l g oh os ok ol ord odd otp olt orw oso osz oit oho ohe otr stp laws z cnt fogs arms kinds faiths places moved isk tpd ovl rmn tcd own_ opt byt x0 qstp qlaws qz qcnt qfogs qarms qkinds qfaiths qplaces qmoved 3 (by omega) (by assumption) (by omega) (hvl) (by omega)) (cwV 1 hts gX11_readsOne_X11_readsGoer rfl rfl rfl hdV_X11_readsGoer ⟨Nat.le_of_ble_eq_true rfl, Nat.le_of_ble_eq_true rfl⟩) 0 rfl rfl rfl hl.1 rfl (Nat.le_of_ble_eq_true rfl) dX11_readsOne_19 ⟨Nat.zero_le _, Nat.zero_le _⟩ (fun rv ws2 hPo H locs hw => ?_)
    obtain ⟨rfl, u17_j0, u17_j1, u17_s, rfl⟩ := hPo
    refine lv_istore_n (lv' := [(1, .int (rgF byt tpd x0 qcnt)), (0, .ref oh)]) hx hb dX11_readsOne_22 rfl hl (by decide) rfl (fun ls hl => ?_)
    refine lv_goto (tgt := 92) hx hb dX11_readsOne_23 (by decide) ?_
    refine lv_iload_n hx hb dX11_readsOne_92 rfl (lv_at hl 0 rfl) ?_
    refine lv_if_eq (tgt := 110) hx hb dX11_readsOne_93 (by decide) (fun c_18 => ?_) (fun c_18 => ?_)
    · refine lv_iconst (v := 0) hx hb dX11_readsOne_110 (by decide) ?_
      have hR := rsG (byt := byt) (tsz := tpd) (x := x0) (cn := qcnt) (la := qlaws) (fo := qfogs) (ar := qarms) (ki := qkinds) (fs := qfaiths) (ps := qplaces) (hk := by rw [e_1.2]; decide)
      have h0 := hR.1.trans (if_pos c_18)
      exact rE_z hf hr hlk hw (rfl) ⟨congrArg some (by rw [h0]), u17_j0, u17_j1, ⟨by unfold rsX; rw [h0, if_pos rfl, hR.2.1]; exact u17_s.1, fun h => absurd h0 h⟩, by unfold rsX; rw [h0, if_pos rfl, hR.2.1]⟩ (show ([oh, os, ord, otp, olt] : List Nat) = [oh, os, ord, otp, olt] from rfl) dX11_readsOne_111
    · refine lv_aload_n hx hb dX11_readsOne_96 rfl (lv_at hl 1 rfl) ?_
      refine lv_sipush (v := 259) hx hb dX11_readsOne_97 (by decide) ?_
      by_cases c_19 : f_X7_isSemicolon (wdO byt tpd (f_X7_readGoer_x tpd byt x0 qcnt)) (wdS byt tpd (f_X7_readGoer_x tpd byt x0 qcnt)) byt = 0
      · refine mcVF hf hk hst hw (c_X11_takesN l g oh os ok ol ord odd otp olt orw oso osz oit oho ohe otr stp laws z cnt fogs arms kinds faiths places moved isk tpd u17_j0 rmn tcd own_ opt u17_j1 byt (f_X7_readGoer_x tpd byt x0 qcnt) 259 (by omega) (by assumption) (by omega) (u17_s.1) (fun h => (tk_semi hby).mp h c_19)) (cwV 1 hts gX11_readsOne_X11_takes rfl rfl rfl hdV_X11_takes ⟨Nat.le_of_ble_eq_true rfl, Nat.le_of_ble_eq_true rfl⟩) 0 rfl rfl rfl hl.1 rfl (Nat.le_of_ble_eq_true rfl) dX11_readsOne_100 ⟨Nat.zero_le _, Nat.zero_le _⟩ (fun rv ws2 hPo H locs hw => ?_)
        obtain ⟨rfl, u20_j0, u20_s, rfl⟩ := hPo
        refine lv_if_eq (tgt := 110) hx hb dX11_readsOne_103 (by decide) (fun _ => ?_) (fun q => absurd (by decide) q)
        refine lv_iconst (v := 0) hx hb dX11_readsOne_110 (by decide) ?_
        have hR := rsG (byt := byt) (tsz := tpd) (x := x0) (cn := qcnt) (la := qlaws) (fo := qfogs) (ar := qarms) (ki := qkinds) (fs := qfaiths) (ps := qplaces) (hk := by rw [e_1.2]; decide)
        have h0 := hR.1.trans ((if_neg c_18).trans (if_pos c_19))
        exact rE_z hf hr hlk hw (rfl) ⟨congrArg some (by rw [h0]), u20_j0, u17_j1, ⟨by unfold rsX; rw [h0, if_pos rfl, hR.2.1]; exact u20_s, fun h => absurd h0 h⟩, by unfold rsX; rw [h0, if_pos rfl, hR.2.1]⟩ (show ([oh, os, ord, otp, olt] : List Nat) = [oh, os, ord, otp, olt] from rfl) dX11_readsOne_111
      · refine mcVF hf hk hst hw (c_X11_takesY l g oh os ok ol ord odd otp olt orw oso osz oit oho ohe otr stp laws z cnt fogs arms kinds faiths places moved isk tpd u17_j0 rmn tcd own_ opt u17_j1 byt (f_X7_readGoer_x tpd byt x0 qcnt) 259 (by omega) (by assumption) (by omega) (u17_s.1) ((tk_semi hby).mpr c_19)) (cwV 1 hts gX11_readsOne_X11_takes rfl rfl rfl hdV_X11_takes ⟨Nat.le_of_ble_eq_true rfl, Nat.le_of_ble_eq_true rfl⟩) 0 rfl rfl rfl hl.1 rfl (Nat.le_of_ble_eq_true rfl) dX11_readsOne_100 ⟨Nat.zero_le _, Nat.zero_le _⟩ (fun rv ws2 hPo H locs hw => ?_)
        obtain ⟨rfl, u21_j0, u21_s, rfl⟩ := hPo
        refine lv_if_eq (tgt := 110) hx hb dX11_readsOne_103 (by decide) (fun q => absurd q (by decide)) (fun _ => ?_)
        refine lv_iconst (v := 1) hx hb dX11_readsOne_106 (by decide) ?_
        refine lv_goto (tgt := 111) hx hb dX11_readsOne_107 (by decide) ?_
        have hR := rsG (byt := byt) (tsz := tpd) (x := x0) (cn := qcnt) (la := qlaws) (fo := qfogs) (ar := qarms) (ki := qkinds) (fs := qfaiths) (ps := qplaces) (hk := by rw [e_1.2]; decide)
        have h1 := hR.1.trans ((if_neg c_18).trans (if_neg c_19))
        obtain ⟨⟨r1, r2, r3, r4, r5, r6, r7⟩, -⟩ := hR.2.2 c_18 c_19
        exact rE_z hf hr hlk hw (rfl) ⟨congrArg some (by rw [h1]), u21_j0, u17_j1, ⟨by unfold rsX; rw [h1, if_neg (by decide), hR.2.1]; exact u21_s, fun _ => by rw [u17_s.2 c_18, r1, r2, r3, r4, r5, r6, r7, e_1.2]⟩, by unfold rsX; rw [h1, if_neg (by decide), hR.2.1]⟩ (show ([oh, os, ord, otp, olt] : List Nat) = [oh, os, ord, otp, olt] from rfl) dX11_readsOne_111
  · refine lv_iconst (v := 0) hx hb dX11_readsOne_0 (by decide) ?_
    refine lv_istore_n (lv' := [(1, .int 0), (0, .ref oh)]) hx hb dX11_readsOne_1 rfl hl (by decide) rfl (fun ls hl => ?_)
    refine lv_aload_n hx hb dX11_readsOne_2 rfl (lv_at hl 1 rfl) ?_
    refine rg hf hk hw hinX11 0 rfl rfl 11 (by decide) w_0 rfl dX11_readsOne_3 ?_
    refine lv_tope (y := 4) (e_1.1) ?_
    refine lv_iconst (v := 0) hx hb dX11_readsOne_6 (by decide) ?_
    refine lv_iconst (v := 5) hx hb dX11_readsOne_7 (by decide) ?_
    refine mcS hf hk hst hw (c_X11_in1 l g 4 0 5) (va_cwS 3 hts gX11_readsOne_X11_in1 rfl rfl rfl hdS_X11_in1 ⟨Nat.le_of_ble_eq_true rfl, Nat.le_of_ble_eq_true rfl⟩) [] rfl rfl rfl hl.1 rfl (Nat.le_of_ble_eq_true rfl) dX11_readsOne_8 ⟨Nat.zero_le _, Nat.zero_le _⟩ (W' := [cob oh 11 [.ref os, .ref ok, .ref ol, .ref ord, .int isk, .ref odd, .ref otp, .int (nI tpd), .ref olt, .int (nI (wdE byt tpd x0)), .int (nI (wdS byt tpd x0)), .int (tkF byt tpd x0), .int ovl, .ref orw, .int (nI rmn), .ref oso, .ref osz, .ref oit, .ref oho, .ref ohe, .ref otr, .int (nI tcd), .int own_, .int opt], cin g os 51 (mR stp laws z cnt fogs arms kinds faiths places moved), cin g ord 51 (mR qstp qlaws qz qcnt qfogs qarms qkinds qfaiths qplaces qmoved), cin g otp 200 (ubT byt), cch g olt 120 mlet]) rfl (fun H locs hw => ?_)
    refine lv_if_eq (tgt := 26) hx hb dX11_readsOne_11 (by decide) (fun q => absurd q (by decide)) (fun _ => ?_)
    refine lv_aload_n hx hb dX11_readsOne_14 rfl (lv_at hl 1 rfl) ?_
    refine lv_aload_n hx hb dX11_readsOne_15 rfl (lv_at hl 1 rfl) ?_
    refine rg hf hk hw hinX11 0 rfl rfl 11 (by decide) w_0 rfl dX11_readsOne_16 ?_
    refine lv_tope (y := 4) (e_1.1) ?_
    refine mcVF hf hk hst hw (c_X11_readsGoer l g oh os ok ol ord odd otp olt orw oso osz oit oho ohe otr stp laws z cnt fogs arms kinds faiths places moved isk tpd ovl rmn tcd own_ opt byt x0 qstp qlaws qz qcnt qfogs qarms qkinds qfaiths qplaces qmoved 4 (by omega) (by assumption) (by omega) (hvl) (by omega)) (cwV 1 hts gX11_readsOne_X11_readsGoer rfl rfl rfl hdV_X11_readsGoer ⟨Nat.le_of_ble_eq_true rfl, Nat.le_of_ble_eq_true rfl⟩) 0 rfl rfl rfl hl.1 rfl (Nat.le_of_ble_eq_true rfl) dX11_readsOne_19 ⟨Nat.zero_le _, Nat.zero_le _⟩ (fun rv ws2 hPo H locs hw => ?_)
    obtain ⟨rfl, u22_j0, u22_j1, u22_s, rfl⟩ := hPo
    refine lv_istore_n (lv' := [(1, .int (rgF byt tpd x0 qcnt)), (0, .ref oh)]) hx hb dX11_readsOne_22 rfl hl (by decide) rfl (fun ls hl => ?_)
    refine lv_goto (tgt := 92) hx hb dX11_readsOne_23 (by decide) ?_
    refine lv_iload_n hx hb dX11_readsOne_92 rfl (lv_at hl 0 rfl) ?_
    refine lv_if_eq (tgt := 110) hx hb dX11_readsOne_93 (by decide) (fun c_23 => ?_) (fun c_23 => ?_)
    · refine lv_iconst (v := 0) hx hb dX11_readsOne_110 (by decide) ?_
      have hR := rsG (byt := byt) (tsz := tpd) (x := x0) (cn := qcnt) (la := qlaws) (fo := qfogs) (ar := qarms) (ki := qkinds) (fs := qfaiths) (ps := qplaces) (hk := by rw [e_1.2]; decide)
      have h0 := hR.1.trans (if_pos c_23)
      exact rE_z hf hr hlk hw (rfl) ⟨congrArg some (by rw [h0]), u22_j0, u22_j1, ⟨by unfold rsX; rw [h0, if_pos rfl, hR.2.1]; exact u22_s.1, fun h => absurd h0 h⟩, by unfold rsX; rw [h0, if_pos rfl, hR.2.1]⟩ (show ([oh, os, ord, otp, olt] : List Nat) = [oh, os, ord, otp, olt] from rfl) dX11_readsOne_111
    · refine lv_aload_n hx hb dX11_readsOne_96 rfl (lv_at hl 1 rfl) ?_
      refine lv_sipush (v := 259) hx hb dX11_readsOne_97 (by decide) ?_
      by_cases c_24 : f_X7_isSemicolon (wdO byt tpd (f_X7_readGoer_x tpd byt x0 qcnt)) (wdS byt tpd (f_X7_readGoer_x tpd byt x0 qcnt)) byt = 0
      · refine mcVF hf hk hst hw (c_X11_takesN l g oh os ok ol ord odd otp olt orw oso osz oit oho ohe otr stp laws z cnt fogs arms kinds faiths places moved isk tpd u22_j0 rmn tcd own_ opt u22_j1 byt (f_X7_readGoer_x tpd byt x0 qcnt) 259 (by omega) (by assumption) (by omega) (u22_s.1) (fun h => (tk_semi hby).mp h c_24)) (cwV 1 hts gX11_readsOne_X11_takes rfl rfl rfl hdV_X11_takes ⟨Nat.le_of_ble_eq_true rfl, Nat.le_of_ble_eq_true rfl⟩) 0 rfl rfl rfl hl.1 rfl (Nat.le_of_ble_eq_true rfl) dX11_readsOne_100 ⟨Nat.zero_le _, Nat.zero_le _⟩ (fun rv ws2 hPo H locs hw => ?_)
        obtain ⟨rfl, u25_j0, u25_s, rfl⟩ := hPo
        refine lv_if_eq (tgt := 110) hx hb dX11_readsOne_103 (by decide) (fun _ => ?_) (fun q => absurd (by decide) q)
        refine lv_iconst (v := 0) hx hb dX11_readsOne_110 (by decide) ?_
        have hR := rsG (byt := byt) (tsz := tpd) (x := x0) (cn := qcnt) (la := qlaws) (fo := qfogs) (ar := qarms) (ki := qkinds) (fs := qfaiths) (ps := qplaces) (hk := by rw [e_1.2]; decide)
        have h0 := hR.1.trans ((if_neg c_23).trans (if_pos c_24))
        exact rE_z hf hr hlk hw (rfl) ⟨congrArg some (by rw [h0]), u25_j0, u22_j1, ⟨by unfold rsX; rw [h0, if_pos rfl, hR.2.1]; exact u25_s, fun h => absurd h0 h⟩, by unfold rsX; rw [h0, if_pos rfl, hR.2.1]⟩ (show ([oh, os, ord, otp, olt] : List Nat) = [oh, os, ord, otp, olt] from rfl) dX11_readsOne_111
      · refine mcVF hf hk hst hw (c_X11_takesY l g oh os ok ol ord odd otp olt orw oso osz oit oho ohe otr stp laws z cnt fogs arms kinds faiths places moved isk tpd u22_j0 rmn tcd own_ opt u22_j1 byt (f_X7_readGoer_x tpd byt x0 qcnt) 259 (by omega) (by assumption) (by omega) (u22_s.1) ((tk_semi hby).mpr c_24)) (cwV 1 hts gX11_readsOne_X11_takes rfl rfl rfl hdV_X11_takes ⟨Nat.le_of_ble_eq_true rfl, Nat.le_of_ble_eq_true rfl⟩) 0 rfl rfl rfl hl.1 rfl (Nat.le_of_ble_eq_true rfl) dX11_readsOne_100 ⟨Nat.zero_le _, Nat.zero_le _⟩ (fun rv ws2 hPo H locs hw => ?_)
        obtain ⟨rfl, u26_j0, u26_s, rfl⟩ := hPo
        refine lv_if_eq (tgt := 110) hx hb dX11_readsOne_103 (by decide) (fun q => absurd q (by decide)) (fun _ => ?_)
        refine lv_iconst (v := 1) hx hb dX11_readsOne_106 (by decide) ?_
        refine lv_goto (tgt := 111) hx hb dX11_readsOne_107 (by decide) ?_
        have hR := rsG (byt := byt) (tsz := tpd) (x := x0) (cn := qcnt) (la := qlaws) (fo := qfogs) (ar := qarms) (ki := qkinds) (fs := qfaiths) (ps := qplaces) (hk := by rw [e_1.2]; decide)
        have h1 := hR.1.trans ((if_neg c_23).trans (if_neg c_24))
        obtain ⟨⟨r1, r2, r3, r4, r5, r6, r7⟩, -⟩ := hR.2.2 c_23 c_24
        exact rE_z hf hr hlk hw (rfl) ⟨congrArg some (by rw [h1]), u26_j0, u22_j1, ⟨by unfold rsX; rw [h1, if_neg (by decide), hR.2.1]; exact u26_s, fun _ => by rw [u22_s.2 c_23, r1, r2, r3, r4, r5, r6, r7, e_1.2]⟩, by unfold rsX; rw [h1, if_neg (by decide), hR.2.1]⟩ (show ([oh, os, ord, otp, olt] : List Nat) = [oh, os, ord, otp, olt] from rfl) dX11_readsOne_111
  · refine lv_iconst (v := 0) hx hb dX11_readsOne_0 (by decide) ?_
    refine lv_istore_n (lv' := [(1, .int 0), (0, .ref oh)]) hx hb dX11_readsOne_1 rfl hl (by decide) rfl (fun ls hl => ?_)
    refine lv_aload_n hx hb dX11_readsOne_2 rfl (lv_at hl 1 rfl) ?_
    refine rg hf hk hw hinX11 0 rfl rfl 11 (by decide) w_0 rfl dX11_readsOne_3 ?_
    refine lv_tope (y := 5) (e_1.1) ?_
    refine lv_iconst (v := 0) hx hb dX11_readsOne_6 (by decide) ?_
    refine lv_iconst (v := 5) hx hb dX11_readsOne_7 (by decide) ?_
    refine mcS hf hk hst hw (c_X11_in1 l g 5 0 5) (va_cwS 3 hts gX11_readsOne_X11_in1 rfl rfl rfl hdS_X11_in1 ⟨Nat.le_of_ble_eq_true rfl, Nat.le_of_ble_eq_true rfl⟩) [] rfl rfl rfl hl.1 rfl (Nat.le_of_ble_eq_true rfl) dX11_readsOne_8 ⟨Nat.zero_le _, Nat.zero_le _⟩ (W' := [cob oh 11 [.ref os, .ref ok, .ref ol, .ref ord, .int isk, .ref odd, .ref otp, .int (nI tpd), .ref olt, .int (nI (wdE byt tpd x0)), .int (nI (wdS byt tpd x0)), .int (tkF byt tpd x0), .int ovl, .ref orw, .int (nI rmn), .ref oso, .ref osz, .ref oit, .ref oho, .ref ohe, .ref otr, .int (nI tcd), .int own_, .int opt], cin g os 51 (mR stp laws z cnt fogs arms kinds faiths places moved), cin g ord 51 (mR qstp qlaws qz qcnt qfogs qarms qkinds qfaiths qplaces qmoved), cin g otp 200 (ubT byt), cch g olt 120 mlet]) rfl (fun H locs hw => ?_)
    refine lv_if_eq (tgt := 26) hx hb dX11_readsOne_11 (by decide) (fun q => absurd q (by decide)) (fun _ => ?_)
    refine lv_aload_n hx hb dX11_readsOne_14 rfl (lv_at hl 1 rfl) ?_
    refine lv_aload_n hx hb dX11_readsOne_15 rfl (lv_at hl 1 rfl) ?_
    refine rg hf hk hw hinX11 0 rfl rfl 11 (by decide) w_0 rfl dX11_readsOne_16 ?_
    refine lv_tope (y := 5) (e_1.1) ?_
    refine mcVF hf hk hst hw (c_X11_readsGoer l g oh os ok ol ord odd otp olt orw oso osz oit oho ohe otr stp laws z cnt fogs arms kinds faiths places moved isk tpd ovl rmn tcd own_ opt byt x0 qstp qlaws qz qcnt qfogs qarms qkinds qfaiths qplaces qmoved 5 (by omega) (by assumption) (by omega) (hvl) (by omega)) (cwV 1 hts gX11_readsOne_X11_readsGoer rfl rfl rfl hdV_X11_readsGoer ⟨Nat.le_of_ble_eq_true rfl, Nat.le_of_ble_eq_true rfl⟩) 0 rfl rfl rfl hl.1 rfl (Nat.le_of_ble_eq_true rfl) dX11_readsOne_19 ⟨Nat.zero_le _, Nat.zero_le _⟩ (fun rv ws2 hPo H locs hw => ?_)
    obtain ⟨rfl, u27_j0, u27_j1, u27_s, rfl⟩ := hPo
    refine lv_istore_n (lv' := [(1, .int (rgF byt tpd x0 qcnt)), (0, .ref oh)]) hx hb dX11_readsOne_22 rfl hl (by decide) rfl (fun ls hl => ?_)
    refine lv_goto (tgt := 92) hx hb dX11_readsOne_23 (by decide) ?_
    refine lv_iload_n hx hb dX11_readsOne_92 rfl (lv_at hl 0 rfl) ?_
    refine lv_if_eq (tgt := 110) hx hb dX11_readsOne_93 (by decide) (fun c_28 => ?_) (fun c_28 => ?_)
    · refine lv_iconst (v := 0) hx hb dX11_readsOne_110 (by decide) ?_
      have hR := rsG (byt := byt) (tsz := tpd) (x := x0) (cn := qcnt) (la := qlaws) (fo := qfogs) (ar := qarms) (ki := qkinds) (fs := qfaiths) (ps := qplaces) (hk := by rw [e_1.2]; decide)
      have h0 := hR.1.trans (if_pos c_28)
      exact rE_z hf hr hlk hw (rfl) ⟨congrArg some (by rw [h0]), u27_j0, u27_j1, ⟨by unfold rsX; rw [h0, if_pos rfl, hR.2.1]; exact u27_s.1, fun h => absurd h0 h⟩, by unfold rsX; rw [h0, if_pos rfl, hR.2.1]⟩ (show ([oh, os, ord, otp, olt] : List Nat) = [oh, os, ord, otp, olt] from rfl) dX11_readsOne_111
    · refine lv_aload_n hx hb dX11_readsOne_96 rfl (lv_at hl 1 rfl) ?_
      refine lv_sipush (v := 259) hx hb dX11_readsOne_97 (by decide) ?_
      by_cases c_29 : f_X7_isSemicolon (wdO byt tpd (f_X7_readGoer_x tpd byt x0 qcnt)) (wdS byt tpd (f_X7_readGoer_x tpd byt x0 qcnt)) byt = 0
      · refine mcVF hf hk hst hw (c_X11_takesN l g oh os ok ol ord odd otp olt orw oso osz oit oho ohe otr stp laws z cnt fogs arms kinds faiths places moved isk tpd u27_j0 rmn tcd own_ opt u27_j1 byt (f_X7_readGoer_x tpd byt x0 qcnt) 259 (by omega) (by assumption) (by omega) (u27_s.1) (fun h => (tk_semi hby).mp h c_29)) (cwV 1 hts gX11_readsOne_X11_takes rfl rfl rfl hdV_X11_takes ⟨Nat.le_of_ble_eq_true rfl, Nat.le_of_ble_eq_true rfl⟩) 0 rfl rfl rfl hl.1 rfl (Nat.le_of_ble_eq_true rfl) dX11_readsOne_100 ⟨Nat.zero_le _, Nat.zero_le _⟩ (fun rv ws2 hPo H locs hw => ?_)
        obtain ⟨rfl, u30_j0, u30_s, rfl⟩ := hPo
        refine lv_if_eq (tgt := 110) hx hb dX11_readsOne_103 (by decide) (fun _ => ?_) (fun q => absurd (by decide) q)
        refine lv_iconst (v := 0) hx hb dX11_readsOne_110 (by decide) ?_
        have hR := rsG (byt := byt) (tsz := tpd) (x := x0) (cn := qcnt) (la := qlaws) (fo := qfogs) (ar := qarms) (ki := qkinds) (fs := qfaiths) (ps := qplaces) (hk := by rw [e_1.2]; decide)
        have h0 := hR.1.trans ((if_neg c_28).trans (if_pos c_29))
        exact rE_z hf hr hlk hw (rfl) ⟨congrArg some (by rw [h0]), u30_j0, u27_j1, ⟨by unfold rsX; rw [h0, if_pos rfl, hR.2.1]; exact u30_s, fun h => absurd h0 h⟩, by unfold rsX; rw [h0, if_pos rfl, hR.2.1]⟩ (show ([oh, os, ord, otp, olt] : List Nat) = [oh, os, ord, otp, olt] from rfl) dX11_readsOne_111
      · refine mcVF hf hk hst hw (c_X11_takesY l g oh os ok ol ord odd otp olt orw oso osz oit oho ohe otr stp laws z cnt fogs arms kinds faiths places moved isk tpd u27_j0 rmn tcd own_ opt u27_j1 byt (f_X7_readGoer_x tpd byt x0 qcnt) 259 (by omega) (by assumption) (by omega) (u27_s.1) ((tk_semi hby).mpr c_29)) (cwV 1 hts gX11_readsOne_X11_takes rfl rfl rfl hdV_X11_takes ⟨Nat.le_of_ble_eq_true rfl, Nat.le_of_ble_eq_true rfl⟩) 0 rfl rfl rfl hl.1 rfl (Nat.le_of_ble_eq_true rfl) dX11_readsOne_100 ⟨Nat.zero_le _, Nat.zero_le _⟩ (fun rv ws2 hPo H locs hw => ?_)
        obtain ⟨rfl, u31_j0, u31_s, rfl⟩ := hPo
        refine lv_if_eq (tgt := 110) hx hb dX11_readsOne_103 (by decide) (fun q => absurd q (by decide)) (fun _ => ?_)
        refine lv_iconst (v := 1) hx hb dX11_readsOne_106 (by decide) ?_
        refine lv_goto (tgt := 111) hx hb dX11_readsOne_107 (by decide) ?_
        have hR := rsG (byt := byt) (tsz := tpd) (x := x0) (cn := qcnt) (la := qlaws) (fo := qfogs) (ar := qarms) (ki := qkinds) (fs := qfaiths) (ps := qplaces) (hk := by rw [e_1.2]; decide)
        have h1 := hR.1.trans ((if_neg c_28).trans (if_neg c_29))
        obtain ⟨⟨r1, r2, r3, r4, r5, r6, r7⟩, -⟩ := hR.2.2 c_28 c_29
        exact rE_z hf hr hlk hw (rfl) ⟨congrArg some (by rw [h1]), u31_j0, u27_j1, ⟨by unfold rsX; rw [h1, if_neg (by decide), hR.2.1]; exact u31_s, fun _ => by rw [u27_s.2 c_28, r1, r2, r3, r4, r5, r6, r7, e_1.2]⟩, by unfold rsX; rw [h1, if_neg (by decide), hR.2.1]⟩ (show ([oh, os, ord, otp, olt] : List Nat) = [oh, os, ord, otp, olt] from rfl) dX11_readsOne_111
  · refine lv_iconst (v := 0) hx hb dX11_readsOne_0 (by decide) ?_
    refine lv_istore_n (lv' := [(1, .int 0), (0, .ref oh)]) hx hb dX11_readsOne_1 rfl hl (by decide) rfl (fun ls hl => ?_)
    refine lv_aload_n hx hb dX11_readsOne_2 rfl (lv_at hl 1 rfl) ?_
    refine rg hf hk hw hinX11 0 rfl rfl 11 (by decide) w_0 rfl dX11_readsOne_3 ?_
    refine lv_tope (y := 6) (e_1.1) ?_
    refine lv_iconst (v := 0) hx hb dX11_readsOne_6 (by decide) ?_
    refine lv_iconst (v := 5) hx hb dX11_readsOne_7 (by decide) ?_
    refine mcS hf hk hst hw (c_X11_in1 l g 6 0 5) (va_cwS 3 hts gX11_readsOne_X11_in1 rfl rfl rfl hdS_X11_in1 ⟨Nat.le_of_ble_eq_true rfl, Nat.le_of_ble_eq_true rfl⟩) [] rfl rfl rfl hl.1 rfl (Nat.le_of_ble_eq_true rfl) dX11_readsOne_8 ⟨Nat.zero_le _, Nat.zero_le _⟩ (W' := [cob oh 11 [.ref os, .ref ok, .ref ol, .ref ord, .int isk, .ref odd, .ref otp, .int (nI tpd), .ref olt, .int (nI (wdE byt tpd x0)), .int (nI (wdS byt tpd x0)), .int (tkF byt tpd x0), .int ovl, .ref orw, .int (nI rmn), .ref oso, .ref osz, .ref oit, .ref oho, .ref ohe, .ref otr, .int (nI tcd), .int own_, .int opt], cin g os 51 (mR stp laws z cnt fogs arms kinds faiths places moved), cin g ord 51 (mR qstp qlaws qz qcnt qfogs qarms qkinds qfaiths qplaces qmoved), cin g otp 200 (ubT byt), cch g olt 120 mlet]) rfl (fun H locs hw => ?_)
    refine lv_if_eq (tgt := 26) hx hb dX11_readsOne_11 (by decide) (fun _ => ?_) (fun q => absurd (by decide) q)
    refine lv_aload_n hx hb dX11_readsOne_26 rfl (lv_at hl 1 rfl) ?_
    refine rg hf hk hw hinX11 0 rfl rfl 11 (by decide) w_0 rfl dX11_readsOne_27 ?_
    refine lv_tope (y := 6) (e_1.1) ?_
    refine lv_bipush (v := 6) hx hb dX11_readsOne_30 (by decide) ?_
    refine lv_bipush (v := 7) hx hb dX11_readsOne_32 (by decide) ?_
    refine mcS hf hk hst hw (c_X11_in1 l g 6 6 7) (va_cwS 3 hts gX11_readsOne_X11_in1 rfl rfl rfl hdS_X11_in1 ⟨Nat.le_of_ble_eq_true rfl, Nat.le_of_ble_eq_true rfl⟩) [] rfl rfl rfl hl.1 rfl (Nat.le_of_ble_eq_true rfl) dX11_readsOne_34 ⟨Nat.zero_le _, Nat.zero_le _⟩ (W' := [cob oh 11 [.ref os, .ref ok, .ref ol, .ref ord, .int isk, .ref odd, .ref otp, .int (nI tpd), .ref olt, .int (nI (wdE byt tpd x0)), .int (nI (wdS byt tpd x0)), .int (tkF byt tpd x0), .int ovl, .ref orw, .int (nI rmn), .ref oso, .ref osz, .ref oit, .ref oho, .ref ohe, .ref otr, .int (nI tcd), .int own_, .int opt], cin g os 51 (mR stp laws z cnt fogs arms kinds faiths places moved), cin g ord 51 (mR qstp qlaws qz qcnt qfogs qarms qkinds qfaiths qplaces qmoved), cin g otp 200 (ubT byt), cch g olt 120 mlet]) rfl (fun H locs hw => ?_)
    refine lv_if_eq (tgt := 64) hx hb dX11_readsOne_37 (by decide) (fun q => absurd q (by decide)) (fun _ => ?_)
    refine lv_aload_n hx hb dX11_readsOne_40 rfl (lv_at hl 1 rfl) ?_
    refine lv_aload_n hx hb dX11_readsOne_41 rfl (lv_at hl 1 rfl) ?_
    refine rg hf hk hw hinX11 0 rfl rfl 11 (by decide) w_0 rfl dX11_readsOne_42 ?_
    refine lv_tope (y := 6) (e_1.1) ?_
    refine lv_bipush (v := 6) hx hb dX11_readsOne_45 (by decide) ?_
    refine lv_icmp_ne (tgt := 55) hx hb dX11_readsOne_47 (by decide) (fun q => absurd (by decide) q) (fun _ => ?_)
    refine lv_bipush (v := 7) hx hb dX11_readsOne_50 (by decide) ?_
    refine lv_goto (tgt := 57) hx hb dX11_readsOne_52 (by decide) ?_
    refine mcVF hf hk hst hw (c_X11_readsRest7 l g oh os ok ol ord odd otp olt orw oso osz oit oho ohe otr stp laws z cnt fogs arms kinds faiths places moved isk tpd ovl rmn tcd own_ opt byt x0 qstp qlaws qz qcnt qfogs qarms qkinds qfaiths qplaces qmoved (by omega) (by assumption) (by omega) (hvl)) (cwV 1 hts gX11_readsOne_X11_readsRest rfl rfl rfl hdV_X11_readsRest ⟨Nat.le_of_ble_eq_true rfl, Nat.le_of_ble_eq_true rfl⟩) 0 rfl rfl rfl hl.1 rfl (Nat.le_of_ble_eq_true rfl) dX11_readsOne_57 ⟨Nat.zero_le _, Nat.zero_le _⟩ (fun rv ws2 hPo H locs hw => ?_)
    obtain ⟨rfl, u32_j0, u32_j1, u32_s, rfl⟩ := hPo
    refine lv_istore_n (lv' := [(1, .int (roF byt tpd x0)), (0, .ref oh)]) hx hb dX11_readsOne_60 rfl hl (by decide) rfl (fun ls hl => ?_)
    refine lv_goto (tgt := 92) hx hb dX11_readsOne_61 (by decide) ?_
    refine lv_iload_n hx hb dX11_readsOne_92 rfl (lv_at hl 0 rfl) ?_
    refine lv_if_eq (tgt := 110) hx hb dX11_readsOne_93 (by decide) (fun c_33 => ?_) (fun c_33 => ?_)
    · refine lv_iconst (v := 0) hx hb dX11_readsOne_110 (by decide) ?_
      have hR := rsF (byt := byt) (tsz := tpd) (x := x0) (cn := qcnt) (la := qlaws) (fo := qfogs) (ar := qarms) (ki := qkinds) (fs := qfaiths) (ps := qplaces) (hk := by rw [e_1.2.1]; decide) (h6 := e_1.2.2)
      have h0 := hR.1.trans (if_pos c_33)
      exact rE_z hf hr hlk hw (rfl) ⟨congrArg some (by rw [h0]), u32_j0, u32_j1, ⟨by unfold rsX; rw [h0, if_pos rfl, hR.2.1]; exact u32_s.1, fun h => absurd h0 h⟩, by unfold rsX; rw [h0, if_pos rfl, hR.2.1]⟩ (show ([oh, os, ord, otp, olt] : List Nat) = [oh, os, ord, otp, olt] from rfl) dX11_readsOne_111
    · refine lv_aload_n hx hb dX11_readsOne_96 rfl (lv_at hl 1 rfl) ?_
      refine lv_sipush (v := 259) hx hb dX11_readsOne_97 (by decide) ?_
      by_cases c_34 : f_X7_isSemicolon (wdO byt tpd (f_X7_readRoster_x tpd byt x0)) (wdS byt tpd (f_X7_readRoster_x tpd byt x0)) byt = 0
      · refine mcVF hf hk hst hw (c_X11_takesN l g oh os ok ol ord odd otp olt orw oso osz oit oho ohe otr stp laws z cnt fogs arms kinds faiths places moved isk tpd u32_j0 rmn tcd own_ opt u32_j1 byt (f_X7_readRoster_x tpd byt x0) 259 (by omega) (by assumption) (by omega) (u32_s.1) (fun h => (tk_semi hby).mp h c_34)) (cwV 1 hts gX11_readsOne_X11_takes rfl rfl rfl hdV_X11_takes ⟨Nat.le_of_ble_eq_true rfl, Nat.le_of_ble_eq_true rfl⟩) 0 rfl rfl rfl hl.1 rfl (Nat.le_of_ble_eq_true rfl) dX11_readsOne_100 ⟨Nat.zero_le _, Nat.zero_le _⟩ (fun rv ws2 hPo H locs hw => ?_)
        obtain ⟨rfl, u35_j0, u35_s, rfl⟩ := hPo
        refine lv_if_eq (tgt := 110) hx hb dX11_readsOne_103 (by decide) (fun _ => ?_) (fun q => absurd (by decide) q)
        refine lv_iconst (v := 0) hx hb dX11_readsOne_110 (by decide) ?_
        have hR := rsF (byt := byt) (tsz := tpd) (x := x0) (cn := qcnt) (la := qlaws) (fo := qfogs) (ar := qarms) (ki := qkinds) (fs := qfaiths) (ps := qplaces) (hk := by rw [e_1.2.1]; decide) (h6 := e_1.2.2)
        have h0 := hR.1.trans ((if_neg c_33).trans (if_pos c_34))
        exact rE_z hf hr hlk hw (rfl) ⟨congrArg some (by rw [h0]), u35_j0, u32_j1, ⟨by unfold rsX; rw [h0, if_pos rfl, hR.2.1]; exact u35_s, fun h => absurd h0 h⟩, by unfold rsX; rw [h0, if_pos rfl, hR.2.1]⟩ (show ([oh, os, ord, otp, olt] : List Nat) = [oh, os, ord, otp, olt] from rfl) dX11_readsOne_111
      · refine mcVF hf hk hst hw (c_X11_takesY l g oh os ok ol ord odd otp olt orw oso osz oit oho ohe otr stp laws z cnt fogs arms kinds faiths places moved isk tpd u32_j0 rmn tcd own_ opt u32_j1 byt (f_X7_readRoster_x tpd byt x0) 259 (by omega) (by assumption) (by omega) (u32_s.1) ((tk_semi hby).mpr c_34)) (cwV 1 hts gX11_readsOne_X11_takes rfl rfl rfl hdV_X11_takes ⟨Nat.le_of_ble_eq_true rfl, Nat.le_of_ble_eq_true rfl⟩) 0 rfl rfl rfl hl.1 rfl (Nat.le_of_ble_eq_true rfl) dX11_readsOne_100 ⟨Nat.zero_le _, Nat.zero_le _⟩ (fun rv ws2 hPo H locs hw => ?_)
        obtain ⟨rfl, u36_j0, u36_s, rfl⟩ := hPo
        refine lv_if_eq (tgt := 110) hx hb dX11_readsOne_103 (by decide) (fun q => absurd q (by decide)) (fun _ => ?_)
        refine lv_iconst (v := 1) hx hb dX11_readsOne_106 (by decide) ?_
        refine lv_goto (tgt := 111) hx hb dX11_readsOne_107 (by decide) ?_
        have hR := rsF (byt := byt) (tsz := tpd) (x := x0) (cn := qcnt) (la := qlaws) (fo := qfogs) (ar := qarms) (ki := qkinds) (fs := qfaiths) (ps := qplaces) (hk := by rw [e_1.2.1]; decide) (h6 := e_1.2.2)
        have h1 := hR.1.trans ((if_neg c_33).trans (if_neg c_34))
        obtain ⟨⟨r1, r2, r3, r4, r5, r6, r7⟩, -⟩ := hR.2.2 c_33 c_34
        exact rE_z hf hr hlk hw (rfl) ⟨congrArg some (by rw [h1]), u36_j0, u32_j1, ⟨by unfold rsX; rw [h1, if_neg (by decide), hR.2.1]; exact u36_s, fun _ => by rw [u32_s.2 c_33, r1, r2, r3, r4, r5, r6, r7]⟩, by unfold rsX; rw [h1, if_neg (by decide), hR.2.1]⟩ (show ([oh, os, ord, otp, olt] : List Nat) = [oh, os, ord, otp, olt] from rfl) dX11_readsOne_111
  · refine lv_iconst (v := 0) hx hb dX11_readsOne_0 (by decide) ?_
    refine lv_istore_n (lv' := [(1, .int 0), (0, .ref oh)]) hx hb dX11_readsOne_1 rfl hl (by decide) rfl (fun ls hl => ?_)
    refine lv_aload_n hx hb dX11_readsOne_2 rfl (lv_at hl 1 rfl) ?_
    refine rg hf hk hw hinX11 0 rfl rfl 11 (by decide) w_0 rfl dX11_readsOne_3 ?_
    refine lv_tope (y := 7) (e_1.1) ?_
    refine lv_iconst (v := 0) hx hb dX11_readsOne_6 (by decide) ?_
    refine lv_iconst (v := 5) hx hb dX11_readsOne_7 (by decide) ?_
    refine mcS hf hk hst hw (c_X11_in1 l g 7 0 5) (va_cwS 3 hts gX11_readsOne_X11_in1 rfl rfl rfl hdS_X11_in1 ⟨Nat.le_of_ble_eq_true rfl, Nat.le_of_ble_eq_true rfl⟩) [] rfl rfl rfl hl.1 rfl (Nat.le_of_ble_eq_true rfl) dX11_readsOne_8 ⟨Nat.zero_le _, Nat.zero_le _⟩ (W' := [cob oh 11 [.ref os, .ref ok, .ref ol, .ref ord, .int isk, .ref odd, .ref otp, .int (nI tpd), .ref olt, .int (nI (wdE byt tpd x0)), .int (nI (wdS byt tpd x0)), .int (tkF byt tpd x0), .int ovl, .ref orw, .int (nI rmn), .ref oso, .ref osz, .ref oit, .ref oho, .ref ohe, .ref otr, .int (nI tcd), .int own_, .int opt], cin g os 51 (mR stp laws z cnt fogs arms kinds faiths places moved), cin g ord 51 (mR qstp qlaws qz qcnt qfogs qarms qkinds qfaiths qplaces qmoved), cin g otp 200 (ubT byt), cch g olt 120 mlet]) rfl (fun H locs hw => ?_)
    refine lv_if_eq (tgt := 26) hx hb dX11_readsOne_11 (by decide) (fun _ => ?_) (fun q => absurd (by decide) q)
    refine lv_aload_n hx hb dX11_readsOne_26 rfl (lv_at hl 1 rfl) ?_
    refine rg hf hk hw hinX11 0 rfl rfl 11 (by decide) w_0 rfl dX11_readsOne_27 ?_
    refine lv_tope (y := 7) (e_1.1) ?_
    refine lv_bipush (v := 6) hx hb dX11_readsOne_30 (by decide) ?_
    refine lv_bipush (v := 7) hx hb dX11_readsOne_32 (by decide) ?_
    refine mcS hf hk hst hw (c_X11_in1 l g 7 6 7) (va_cwS 3 hts gX11_readsOne_X11_in1 rfl rfl rfl hdS_X11_in1 ⟨Nat.le_of_ble_eq_true rfl, Nat.le_of_ble_eq_true rfl⟩) [] rfl rfl rfl hl.1 rfl (Nat.le_of_ble_eq_true rfl) dX11_readsOne_34 ⟨Nat.zero_le _, Nat.zero_le _⟩ (W' := [cob oh 11 [.ref os, .ref ok, .ref ol, .ref ord, .int isk, .ref odd, .ref otp, .int (nI tpd), .ref olt, .int (nI (wdE byt tpd x0)), .int (nI (wdS byt tpd x0)), .int (tkF byt tpd x0), .int ovl, .ref orw, .int (nI rmn), .ref oso, .ref osz, .ref oit, .ref oho, .ref ohe, .ref otr, .int (nI tcd), .int own_, .int opt], cin g os 51 (mR stp laws z cnt fogs arms kinds faiths places moved), cin g ord 51 (mR qstp qlaws qz qcnt qfogs qarms qkinds qfaiths qplaces qmoved), cin g otp 200 (ubT byt), cch g olt 120 mlet]) rfl (fun H locs hw => ?_)
    refine lv_if_eq (tgt := 64) hx hb dX11_readsOne_37 (by decide) (fun q => absurd q (by decide)) (fun _ => ?_)
    refine lv_aload_n hx hb dX11_readsOne_40 rfl (lv_at hl 1 rfl) ?_
    refine lv_aload_n hx hb dX11_readsOne_41 rfl (lv_at hl 1 rfl) ?_
    refine rg hf hk hw hinX11 0 rfl rfl 11 (by decide) w_0 rfl dX11_readsOne_42 ?_
    refine lv_tope (y := 7) (e_1.1) ?_
    refine lv_bipush (v := 6) hx hb dX11_readsOne_45 (by decide) ?_
    refine lv_icmp_ne (tgt := 55) hx hb dX11_readsOne_47 (by decide) (fun _ => ?_) (fun q => absurd q (by decide))
    refine lv_bipush (v := 13) hx hb dX11_readsOne_55 (by decide) ?_
    refine mcVF hf hk hst hw (c_X11_readsRest13 l g oh os ok ol ord odd otp olt orw oso osz oit oho ohe otr stp laws z cnt fogs arms kinds faiths places moved isk tpd ovl rmn tcd own_ opt byt x0 qstp qlaws qz qcnt qfogs qarms qkinds qfaiths qplaces qmoved (by omega) (by assumption) (by omega) (hvl)) (cwV 1 hts gX11_readsOne_X11_readsRest rfl rfl rfl hdV_X11_readsRest ⟨Nat.le_of_ble_eq_true rfl, Nat.le_of_ble_eq_true rfl⟩) 0 rfl rfl rfl hl.1 rfl (Nat.le_of_ble_eq_true rfl) dX11_readsOne_57 ⟨Nat.zero_le _, Nat.zero_le _⟩ (fun rv ws2 hPo H locs hw => ?_)
    obtain ⟨rfl, u37_j0, u37_j1, u37_s, rfl⟩ := hPo
    refine lv_istore_n (lv' := [(1, .int (roF byt tpd x0)), (0, .ref oh)]) hx hb dX11_readsOne_60 rfl hl (by decide) rfl (fun ls hl => ?_)
    refine lv_goto (tgt := 92) hx hb dX11_readsOne_61 (by decide) ?_
    refine lv_iload_n hx hb dX11_readsOne_92 rfl (lv_at hl 0 rfl) ?_
    refine lv_if_eq (tgt := 110) hx hb dX11_readsOne_93 (by decide) (fun c_38 => ?_) (fun c_38 => ?_)
    · refine lv_iconst (v := 0) hx hb dX11_readsOne_110 (by decide) ?_
      have hR := rsR (byt := byt) (tsz := tpd) (x := x0) (cn := qcnt) (la := qlaws) (fo := qfogs) (ar := qarms) (ki := qkinds) (fs := qfaiths) (ps := qplaces) (hk := by rw [e_1.2.1]; decide) (h6 := e_1.2.2.1) (h7 := e_1.2.2.2)
      have h0 := hR.1.trans (if_pos c_38)
      exact rE_z hf hr hlk hw (rfl) ⟨congrArg some (by rw [h0]), u37_j0, u37_j1, ⟨by unfold rsX; rw [h0, if_pos rfl, hR.2.1]; exact u37_s.1, fun h => absurd h0 h⟩, by unfold rsX; rw [h0, if_pos rfl, hR.2.1]⟩ (show ([oh, os, ord, otp, olt] : List Nat) = [oh, os, ord, otp, olt] from rfl) dX11_readsOne_111
    · refine lv_aload_n hx hb dX11_readsOne_96 rfl (lv_at hl 1 rfl) ?_
      refine lv_sipush (v := 259) hx hb dX11_readsOne_97 (by decide) ?_
      by_cases c_39 : f_X7_isSemicolon (wdO byt tpd (f_X7_readRoster_x tpd byt x0)) (wdS byt tpd (f_X7_readRoster_x tpd byt x0)) byt = 0
      · refine mcVF hf hk hst hw (c_X11_takesN l g oh os ok ol ord odd otp olt orw oso osz oit oho ohe otr stp laws z cnt fogs arms kinds faiths places moved isk tpd u37_j0 rmn tcd own_ opt u37_j1 byt (f_X7_readRoster_x tpd byt x0) 259 (by omega) (by assumption) (by omega) (u37_s.1) (fun h => (tk_semi hby).mp h c_39)) (cwV 1 hts gX11_readsOne_X11_takes rfl rfl rfl hdV_X11_takes ⟨Nat.le_of_ble_eq_true rfl, Nat.le_of_ble_eq_true rfl⟩) 0 rfl rfl rfl hl.1 rfl (Nat.le_of_ble_eq_true rfl) dX11_readsOne_100 ⟨Nat.zero_le _, Nat.zero_le _⟩ (fun rv ws2 hPo H locs hw => ?_)
        obtain ⟨rfl, u40_j0, u40_s, rfl⟩ := hPo
        refine lv_if_eq (tgt := 110) hx hb dX11_readsOne_103 (by decide) (fun _ => ?_) (fun q => absurd (by decide) q)
        refine lv_iconst (v := 0) hx hb dX11_readsOne_110 (by decide) ?_
        have hR := rsR (byt := byt) (tsz := tpd) (x := x0) (cn := qcnt) (la := qlaws) (fo := qfogs) (ar := qarms) (ki := qkinds) (fs := qfaiths) (ps := qplaces) (hk := by rw [e_1.2.1]; decide) (h6 := e_1.2.2.1) (h7 := e_1.2.2.2)
        have h0 := hR.1.trans ((if_neg c_38).trans (if_pos c_39))
        exact rE_z hf hr hlk hw (rfl) ⟨congrArg some (by rw [h0]), u40_j0, u37_j1, ⟨by unfold rsX; rw [h0, if_pos rfl, hR.2.1]; exact u40_s, fun h => absurd h0 h⟩, by unfold rsX; rw [h0, if_pos rfl, hR.2.1]⟩ (show ([oh, os, ord, otp, olt] : List Nat) = [oh, os, ord, otp, olt] from rfl) dX11_readsOne_111
      · refine mcVF hf hk hst hw (c_X11_takesY l g oh os ok ol ord odd otp olt orw oso osz oit oho ohe otr stp laws z cnt fogs arms kinds faiths places moved isk tpd u37_j0 rmn tcd own_ opt u37_j1 byt (f_X7_readRoster_x tpd byt x0) 259 (by omega) (by assumption) (by omega) (u37_s.1) ((tk_semi hby).mpr c_39)) (cwV 1 hts gX11_readsOne_X11_takes rfl rfl rfl hdV_X11_takes ⟨Nat.le_of_ble_eq_true rfl, Nat.le_of_ble_eq_true rfl⟩) 0 rfl rfl rfl hl.1 rfl (Nat.le_of_ble_eq_true rfl) dX11_readsOne_100 ⟨Nat.zero_le _, Nat.zero_le _⟩ (fun rv ws2 hPo H locs hw => ?_)
        obtain ⟨rfl, u41_j0, u41_s, rfl⟩ := hPo
        refine lv_if_eq (tgt := 110) hx hb dX11_readsOne_103 (by decide) (fun q => absurd q (by decide)) (fun _ => ?_)
        refine lv_iconst (v := 1) hx hb dX11_readsOne_106 (by decide) ?_
        refine lv_goto (tgt := 111) hx hb dX11_readsOne_107 (by decide) ?_
        have hR := rsR (byt := byt) (tsz := tpd) (x := x0) (cn := qcnt) (la := qlaws) (fo := qfogs) (ar := qarms) (ki := qkinds) (fs := qfaiths) (ps := qplaces) (hk := by rw [e_1.2.1]; decide) (h6 := e_1.2.2.1) (h7 := e_1.2.2.2)
        have h1 := hR.1.trans ((if_neg c_38).trans (if_neg c_39))
        obtain ⟨⟨r1, r2, r3, r4, r5, r6, r7⟩, -⟩ := hR.2.2 c_38 c_39
        exact rE_z hf hr hlk hw (rfl) ⟨congrArg some (by rw [h1]), u41_j0, u37_j1, ⟨by unfold rsX; rw [h1, if_neg (by decide), hR.2.1]; exact u41_s, fun _ => by rw [u37_s.2 c_38, r1, r2, r3, r4, r5, r6, r7]⟩, by unfold rsX; rw [h1, if_neg (by decide), hR.2.1]⟩ (show ([oh, os, ord, otp, olt] : List Nat) = [oh, os, ord, otp, olt] from rfl) dX11_readsOne_111
  · refine lv_iconst (v := 0) hx hb dX11_readsOne_0 (by decide) ?_
    refine lv_istore_n (lv' := [(1, .int 0), (0, .ref oh)]) hx hb dX11_readsOne_1 rfl hl (by decide) rfl (fun ls hl => ?_)
    refine lv_aload_n hx hb dX11_readsOne_2 rfl (lv_at hl 1 rfl) ?_
    refine rg hf hk hw hinX11 0 rfl rfl 11 (by decide) w_0 rfl dX11_readsOne_3 ?_
    refine lv_tope (y := 8) (e_1.1) ?_
    refine lv_iconst (v := 0) hx hb dX11_readsOne_6 (by decide) ?_
    refine lv_iconst (v := 5) hx hb dX11_readsOne_7 (by decide) ?_
    refine mcS hf hk hst hw (c_X11_in1 l g 8 0 5) (va_cwS 3 hts gX11_readsOne_X11_in1 rfl rfl rfl hdS_X11_in1 ⟨Nat.le_of_ble_eq_true rfl, Nat.le_of_ble_eq_true rfl⟩) [] rfl rfl rfl hl.1 rfl (Nat.le_of_ble_eq_true rfl) dX11_readsOne_8 ⟨Nat.zero_le _, Nat.zero_le _⟩ (W' := [cob oh 11 [.ref os, .ref ok, .ref ol, .ref ord, .int isk, .ref odd, .ref otp, .int (nI tpd), .ref olt, .int (nI (wdE byt tpd x0)), .int (nI (wdS byt tpd x0)), .int (tkF byt tpd x0), .int ovl, .ref orw, .int (nI rmn), .ref oso, .ref osz, .ref oit, .ref oho, .ref ohe, .ref otr, .int (nI tcd), .int own_, .int opt], cin g os 51 (mR stp laws z cnt fogs arms kinds faiths places moved), cin g ord 51 (mR qstp qlaws qz qcnt qfogs qarms qkinds qfaiths qplaces qmoved), cin g otp 200 (ubT byt), cch g olt 120 mlet]) rfl (fun H locs hw => ?_)
    refine lv_if_eq (tgt := 26) hx hb dX11_readsOne_11 (by decide) (fun _ => ?_) (fun q => absurd (by decide) q)
    refine lv_aload_n hx hb dX11_readsOne_26 rfl (lv_at hl 1 rfl) ?_
    refine rg hf hk hw hinX11 0 rfl rfl 11 (by decide) w_0 rfl dX11_readsOne_27 ?_
    refine lv_tope (y := 8) (e_1.1) ?_
    refine lv_bipush (v := 6) hx hb dX11_readsOne_30 (by decide) ?_
    refine lv_bipush (v := 7) hx hb dX11_readsOne_32 (by decide) ?_
    refine mcS hf hk hst hw (c_X11_in1 l g 8 6 7) (va_cwS 3 hts gX11_readsOne_X11_in1 rfl rfl rfl hdS_X11_in1 ⟨Nat.le_of_ble_eq_true rfl, Nat.le_of_ble_eq_true rfl⟩) [] rfl rfl rfl hl.1 rfl (Nat.le_of_ble_eq_true rfl) dX11_readsOne_34 ⟨Nat.zero_le _, Nat.zero_le _⟩ (W' := [cob oh 11 [.ref os, .ref ok, .ref ol, .ref ord, .int isk, .ref odd, .ref otp, .int (nI tpd), .ref olt, .int (nI (wdE byt tpd x0)), .int (nI (wdS byt tpd x0)), .int (tkF byt tpd x0), .int ovl, .ref orw, .int (nI rmn), .ref oso, .ref osz, .ref oit, .ref oho, .ref ohe, .ref otr, .int (nI tcd), .int own_, .int opt], cin g os 51 (mR stp laws z cnt fogs arms kinds faiths places moved), cin g ord 51 (mR qstp qlaws qz qcnt qfogs qarms qkinds qfaiths qplaces qmoved), cin g otp 200 (ubT byt), cch g olt 120 mlet]) rfl (fun H locs hw => ?_)
    refine lv_if_eq (tgt := 64) hx hb dX11_readsOne_37 (by decide) (fun _ => ?_) (fun q => absurd (by decide) q)
    refine lv_aload_n hx hb dX11_readsOne_64 rfl (lv_at hl 1 rfl) ?_
    refine rg hf hk hw hinX11 0 rfl rfl 11 (by decide) w_0 rfl dX11_readsOne_65 ?_
    refine lv_tope (y := 8) (e_1.1) ?_
    refine lv_bipush (v := 8) hx hb dX11_readsOne_68 (by decide) ?_
    refine lv_bipush (v := 11) hx hb dX11_readsOne_70 (by decide) ?_
    refine mcS hf hk hst hw (c_X11_in1 l g 8 8 11) (va_cwS 3 hts gX11_readsOne_X11_in1 rfl rfl rfl hdS_X11_in1 ⟨Nat.le_of_ble_eq_true rfl, Nat.le_of_ble_eq_true rfl⟩) [] rfl rfl rfl hl.1 rfl (Nat.le_of_ble_eq_true rfl) dX11_readsOne_72 ⟨Nat.zero_le _, Nat.zero_le _⟩ (W' := [cob oh 11 [.ref os, .ref ok, .ref ol, .ref ord, .int isk, .ref odd, .ref otp, .int (nI tpd), .ref olt, .int (nI (wdE byt tpd x0)), .int (nI (wdS byt tpd x0)), .int (tkF byt tpd x0), .int ovl, .ref orw, .int (nI rmn), .ref oso, .ref osz, .ref oit, .ref oho, .ref ohe, .ref otr, .int (nI tcd), .int own_, .int opt], cin g os 51 (mR stp laws z cnt fogs arms kinds faiths places moved), cin g ord 51 (mR qstp qlaws qz qcnt qfogs qarms qkinds qfaiths qplaces qmoved), cin g otp 200 (ubT byt), cch g olt 120 mlet]) rfl (fun H locs hw => ?_)
    refine lv_if_eq (tgt := 92) hx hb dX11_readsOne_75 (by decide) (fun q => absurd q (by decide)) (fun _ => ?_)
    refine lv_aload_n hx hb dX11_readsOne_78 rfl (lv_at hl 1 rfl) ?_
    refine lv_aload_n hx hb dX11_readsOne_79 rfl (lv_at hl 1 rfl) ?_
    refine rg hf hk hw hinX11 0 rfl rfl 11 (by decide) w_0 rfl dX11_readsOne_80 ?_
    refine lv_tope (y := 8) (e_1.1) ?_
    refine lv_bipush (v := 8) hx hb dX11_readsOne_83 (by decide) ?_
    refine lv_isub hx hb dX11_readsOne_85 ?_
    refine lv_iconst (v := 1) hx hb dX11_readsOne_86 (by decide) ?_
    refine lv_iadd hx hb dX11_readsOne_87 ?_
    refine lv_tope (y := 1) (by decide) ?_
    refine mcVF hf hk hst hw (c_X11_readsLaw0 l g oh os ok ol ord odd otp olt orw oso osz oit oho ohe otr stp laws z cnt fogs arms kinds faiths places moved isk tpd ovl rmn tcd own_ opt byt x0 qstp qlaws qz qcnt qfogs qarms qkinds qfaiths qplaces qmoved (by omega) (by assumption) (by omega) (hvl)) (cwV 1 hts gX11_readsOne_X11_readsLaw rfl rfl rfl hdV_X11_readsLaw ⟨Nat.le_of_ble_eq_true rfl, Nat.le_of_ble_eq_true rfl⟩) 0 rfl rfl rfl hl.1 rfl (Nat.le_of_ble_eq_true rfl) dX11_readsOne_88 ⟨Nat.zero_le _, Nat.zero_le _⟩ (fun rv ws2 hPo H locs hw => ?_)
    obtain ⟨rfl, u42_j0, u42_j1, u42_s, rfl⟩ := hPo
    refine lv_istore_n (lv' := [(1, .int (lwF byt tpd x0 0)), (0, .ref oh)]) hx hb dX11_readsOne_91 rfl hl (by decide) rfl (fun ls hl => ?_)
    refine lv_iload_n hx hb dX11_readsOne_92 rfl (lv_at hl 0 rfl) ?_
    refine lv_if_eq (tgt := 110) hx hb dX11_readsOne_93 (by decide) (fun c_43 => ?_) (fun c_43 => ?_)
    · refine lv_iconst (v := 0) hx hb dX11_readsOne_110 (by decide) ?_
      have hR := rsL0 (byt := byt) (tsz := tpd) (x := x0) (cn := qcnt) (la := qlaws) (fo := qfogs) (ar := qarms) (ki := qkinds) (fs := qfaiths) (ps := qplaces) (hk := by rw [e_1.2.1]; decide) (h6 := e_1.2.2.1) (h7 := e_1.2.2.2.1) (hl := e_1.2.2.2.2)
      have h0 := hR.1.trans (if_pos c_43)
      exact rE_z hf hr hlk hw (rfl) ⟨congrArg some (by rw [h0]), u42_j0, u42_j1, ⟨by unfold rsX; rw [h0, if_pos rfl, hR.2.1]; exact u42_s.1, fun h => absurd h0 h⟩, by unfold rsX; rw [h0, if_pos rfl, hR.2.1]⟩ (show ([oh, os, ord, otp, olt] : List Nat) = [oh, os, ord, otp, olt] from rfl) dX11_readsOne_111
    · refine lv_aload_n hx hb dX11_readsOne_96 rfl (lv_at hl 1 rfl) ?_
      refine lv_sipush (v := 259) hx hb dX11_readsOne_97 (by decide) ?_
      by_cases c_44 : f_X7_isSemicolon (wdO byt tpd (f_X7_readLaw_x tpd byt x0 0)) (wdS byt tpd (f_X7_readLaw_x tpd byt x0 0)) byt = 0
      · refine mcVF hf hk hst hw (c_X11_takesN l g oh os ok ol ord odd otp olt orw oso osz oit oho ohe otr stp laws z cnt fogs arms kinds faiths places moved isk tpd u42_j0 rmn tcd own_ opt u42_j1 byt (f_X7_readLaw_x tpd byt x0 0) 259 (by omega) (by assumption) (by omega) (u42_s.1) (fun h => (tk_semi hby).mp h c_44)) (cwV 1 hts gX11_readsOne_X11_takes rfl rfl rfl hdV_X11_takes ⟨Nat.le_of_ble_eq_true rfl, Nat.le_of_ble_eq_true rfl⟩) 0 rfl rfl rfl hl.1 rfl (Nat.le_of_ble_eq_true rfl) dX11_readsOne_100 ⟨Nat.zero_le _, Nat.zero_le _⟩ (fun rv ws2 hPo H locs hw => ?_)
        obtain ⟨rfl, u45_j0, u45_s, rfl⟩ := hPo
        refine lv_if_eq (tgt := 110) hx hb dX11_readsOne_103 (by decide) (fun _ => ?_) (fun q => absurd (by decide) q)
        refine lv_iconst (v := 0) hx hb dX11_readsOne_110 (by decide) ?_
        have hR := rsL0 (byt := byt) (tsz := tpd) (x := x0) (cn := qcnt) (la := qlaws) (fo := qfogs) (ar := qarms) (ki := qkinds) (fs := qfaiths) (ps := qplaces) (hk := by rw [e_1.2.1]; decide) (h6 := e_1.2.2.1) (h7 := e_1.2.2.2.1) (hl := e_1.2.2.2.2)
        have h0 := hR.1.trans ((if_neg c_43).trans (if_pos c_44))
        exact rE_z hf hr hlk hw (rfl) ⟨congrArg some (by rw [h0]), u45_j0, u42_j1, ⟨by unfold rsX; rw [h0, if_pos rfl, hR.2.1]; exact u45_s, fun h => absurd h0 h⟩, by unfold rsX; rw [h0, if_pos rfl, hR.2.1]⟩ (show ([oh, os, ord, otp, olt] : List Nat) = [oh, os, ord, otp, olt] from rfl) dX11_readsOne_111
      · refine mcVF hf hk hst hw (c_X11_takesY l g oh os ok ol ord odd otp olt orw oso osz oit oho ohe otr stp laws z cnt fogs arms kinds faiths places moved isk tpd u42_j0 rmn tcd own_ opt u42_j1 byt (f_X7_readLaw_x tpd byt x0 0) 259 (by omega) (by assumption) (by omega) (u42_s.1) ((tk_semi hby).mpr c_44)) (cwV 1 hts gX11_readsOne_X11_takes rfl rfl rfl hdV_X11_takes ⟨Nat.le_of_ble_eq_true rfl, Nat.le_of_ble_eq_true rfl⟩) 0 rfl rfl rfl hl.1 rfl (Nat.le_of_ble_eq_true rfl) dX11_readsOne_100 ⟨Nat.zero_le _, Nat.zero_le _⟩ (fun rv ws2 hPo H locs hw => ?_)
        obtain ⟨rfl, u46_j0, u46_s, rfl⟩ := hPo
        refine lv_if_eq (tgt := 110) hx hb dX11_readsOne_103 (by decide) (fun q => absurd q (by decide)) (fun _ => ?_)
        refine lv_iconst (v := 1) hx hb dX11_readsOne_106 (by decide) ?_
        refine lv_goto (tgt := 111) hx hb dX11_readsOne_107 (by decide) ?_
        have hR := rsL0 (byt := byt) (tsz := tpd) (x := x0) (cn := qcnt) (la := qlaws) (fo := qfogs) (ar := qarms) (ki := qkinds) (fs := qfaiths) (ps := qplaces) (hk := by rw [e_1.2.1]; decide) (h6 := e_1.2.2.1) (h7 := e_1.2.2.2.1) (hl := e_1.2.2.2.2)
        have h1 := hR.1.trans ((if_neg c_43).trans (if_neg c_44))
        obtain ⟨⟨r1, r2, r3, r4, r5, r6, r7⟩, -⟩ := hR.2.2 c_43 c_44
        exact rE_z hf hr hlk hw (rfl) ⟨congrArg some (by rw [h1]), u46_j0, u42_j1, ⟨by unfold rsX; rw [h1, if_neg (by decide), hR.2.1]; exact u46_s, fun _ => by rw [u42_s.2 c_43, r1, r2, r3, r4, r5, r6, r7]; rfl⟩, by unfold rsX; rw [h1, if_neg (by decide), hR.2.1]⟩ (show ([oh, os, ord, otp, olt] : List Nat) = [oh, os, ord, otp, olt] from rfl) dX11_readsOne_111
  · refine lv_iconst (v := 0) hx hb dX11_readsOne_0 (by decide) ?_
    refine lv_istore_n (lv' := [(1, .int 0), (0, .ref oh)]) hx hb dX11_readsOne_1 rfl hl (by decide) rfl (fun ls hl => ?_)
    refine lv_aload_n hx hb dX11_readsOne_2 rfl (lv_at hl 1 rfl) ?_
    refine rg hf hk hw hinX11 0 rfl rfl 11 (by decide) w_0 rfl dX11_readsOne_3 ?_
    refine lv_tope (y := 9) (e_1.1) ?_
    refine lv_iconst (v := 0) hx hb dX11_readsOne_6 (by decide) ?_
    refine lv_iconst (v := 5) hx hb dX11_readsOne_7 (by decide) ?_
    refine mcS hf hk hst hw (c_X11_in1 l g 9 0 5) (va_cwS 3 hts gX11_readsOne_X11_in1 rfl rfl rfl hdS_X11_in1 ⟨Nat.le_of_ble_eq_true rfl, Nat.le_of_ble_eq_true rfl⟩) [] rfl rfl rfl hl.1 rfl (Nat.le_of_ble_eq_true rfl) dX11_readsOne_8 ⟨Nat.zero_le _, Nat.zero_le _⟩ (W' := [cob oh 11 [.ref os, .ref ok, .ref ol, .ref ord, .int isk, .ref odd, .ref otp, .int (nI tpd), .ref olt, .int (nI (wdE byt tpd x0)), .int (nI (wdS byt tpd x0)), .int (tkF byt tpd x0), .int ovl, .ref orw, .int (nI rmn), .ref oso, .ref osz, .ref oit, .ref oho, .ref ohe, .ref otr, .int (nI tcd), .int own_, .int opt], cin g os 51 (mR stp laws z cnt fogs arms kinds faiths places moved), cin g ord 51 (mR qstp qlaws qz qcnt qfogs qarms qkinds qfaiths qplaces qmoved), cin g otp 200 (ubT byt), cch g olt 120 mlet]) rfl (fun H locs hw => ?_)
    refine lv_if_eq (tgt := 26) hx hb dX11_readsOne_11 (by decide) (fun _ => ?_) (fun q => absurd (by decide) q)
    refine lv_aload_n hx hb dX11_readsOne_26 rfl (lv_at hl 1 rfl) ?_
    refine rg hf hk hw hinX11 0 rfl rfl 11 (by decide) w_0 rfl dX11_readsOne_27 ?_
    refine lv_tope (y := 9) (e_1.1) ?_
    refine lv_bipush (v := 6) hx hb dX11_readsOne_30 (by decide) ?_
    refine lv_bipush (v := 7) hx hb dX11_readsOne_32 (by decide) ?_
    refine mcS hf hk hst hw (c_X11_in1 l g 9 6 7) (va_cwS 3 hts gX11_readsOne_X11_in1 rfl rfl rfl hdS_X11_in1 ⟨Nat.le_of_ble_eq_true rfl, Nat.le_of_ble_eq_true rfl⟩) [] rfl rfl rfl hl.1 rfl (Nat.le_of_ble_eq_true rfl) dX11_readsOne_34 ⟨Nat.zero_le _, Nat.zero_le _⟩ (W' := [cob oh 11 [.ref os, .ref ok, .ref ol, .ref ord, .int isk, .ref odd, .ref otp, .int (nI tpd), .ref olt, .int (nI (wdE byt tpd x0)), .int (nI (wdS byt tpd x0)), .int (tkF byt tpd x0), .int ovl, .ref orw, .int (nI rmn), .ref oso, .ref osz, .ref oit, .ref oho, .ref ohe, .ref otr, .int (nI tcd), .int own_, .int opt], cin g os 51 (mR stp laws z cnt fogs arms kinds faiths places moved), cin g ord 51 (mR qstp qlaws qz qcnt qfogs qarms qkinds qfaiths qplaces qmoved), cin g otp 200 (ubT byt), cch g olt 120 mlet]) rfl (fun H locs hw => ?_)
    refine lv_if_eq (tgt := 64) hx hb dX11_readsOne_37 (by decide) (fun _ => ?_) (fun q => absurd (by decide) q)
    refine lv_aload_n hx hb dX11_readsOne_64 rfl (lv_at hl 1 rfl) ?_
    refine rg hf hk hw hinX11 0 rfl rfl 11 (by decide) w_0 rfl dX11_readsOne_65 ?_
    refine lv_tope (y := 9) (e_1.1) ?_
    refine lv_bipush (v := 8) hx hb dX11_readsOne_68 (by decide) ?_
    refine lv_bipush (v := 11) hx hb dX11_readsOne_70 (by decide) ?_
    refine mcS hf hk hst hw (c_X11_in1 l g 9 8 11) (va_cwS 3 hts gX11_readsOne_X11_in1 rfl rfl rfl hdS_X11_in1 ⟨Nat.le_of_ble_eq_true rfl, Nat.le_of_ble_eq_true rfl⟩) [] rfl rfl rfl hl.1 rfl (Nat.le_of_ble_eq_true rfl) dX11_readsOne_72 ⟨Nat.zero_le _, Nat.zero_le _⟩ (W' := [cob oh 11 [.ref os, .ref ok, .ref ol, .ref ord, .int isk, .ref odd, .ref otp, .int (nI tpd), .ref olt, .int (nI (wdE byt tpd x0)), .int (nI (wdS byt tpd x0)), .int (tkF byt tpd x0), .int ovl, .ref orw, .int (nI rmn), .ref oso, .ref osz, .ref oit, .ref oho, .ref ohe, .ref otr, .int (nI tcd), .int own_, .int opt], cin g os 51 (mR stp laws z cnt fogs arms kinds faiths places moved), cin g ord 51 (mR qstp qlaws qz qcnt qfogs qarms qkinds qfaiths qplaces qmoved), cin g otp 200 (ubT byt), cch g olt 120 mlet]) rfl (fun H locs hw => ?_)
    refine lv_if_eq (tgt := 92) hx hb dX11_readsOne_75 (by decide) (fun q => absurd q (by decide)) (fun _ => ?_)
    refine lv_aload_n hx hb dX11_readsOne_78 rfl (lv_at hl 1 rfl) ?_
    refine lv_aload_n hx hb dX11_readsOne_79 rfl (lv_at hl 1 rfl) ?_
    refine rg hf hk hw hinX11 0 rfl rfl 11 (by decide) w_0 rfl dX11_readsOne_80 ?_
    refine lv_tope (y := 9) (e_1.1) ?_
    refine lv_bipush (v := 8) hx hb dX11_readsOne_83 (by decide) ?_
    refine lv_isub hx hb dX11_readsOne_85 ?_
    refine lv_iconst (v := 1) hx hb dX11_readsOne_86 (by decide) ?_
    refine lv_iadd hx hb dX11_readsOne_87 ?_
    refine lv_tope (y := 2) (by decide) ?_
    refine mcVF hf hk hst hw (c_X11_readsLaw1 l g oh os ok ol ord odd otp olt orw oso osz oit oho ohe otr stp laws z cnt fogs arms kinds faiths places moved isk tpd ovl rmn tcd own_ opt byt x0 qstp qlaws qz qcnt qfogs qarms qkinds qfaiths qplaces qmoved (by omega) (by assumption) (by omega) (hvl)) (cwV 1 hts gX11_readsOne_X11_readsLaw rfl rfl rfl hdV_X11_readsLaw ⟨Nat.le_of_ble_eq_true rfl, Nat.le_of_ble_eq_true rfl⟩) 0 rfl rfl rfl hl.1 rfl (Nat.le_of_ble_eq_true rfl) dX11_readsOne_88 ⟨Nat.zero_le _, Nat.zero_le _⟩ (fun rv ws2 hPo H locs hw => ?_)
    obtain ⟨rfl, u47_j0, u47_j1, u47_s, rfl⟩ := hPo
    refine lv_istore_n (lv' := [(1, .int (lwF byt tpd x0 1)), (0, .ref oh)]) hx hb dX11_readsOne_91 rfl hl (by decide) rfl (fun ls hl => ?_)
    refine lv_iload_n hx hb dX11_readsOne_92 rfl (lv_at hl 0 rfl) ?_
    refine lv_if_eq (tgt := 110) hx hb dX11_readsOne_93 (by decide) (fun c_48 => ?_) (fun c_48 => ?_)
    · refine lv_iconst (v := 0) hx hb dX11_readsOne_110 (by decide) ?_
      have hR := rsL1 (byt := byt) (tsz := tpd) (x := x0) (cn := qcnt) (la := qlaws) (fo := qfogs) (ar := qarms) (ki := qkinds) (fs := qfaiths) (ps := qplaces) (hk := by rw [e_1.2.1]; decide) (h6 := e_1.2.2.1) (h7 := e_1.2.2.2.1) (hl := e_1.2.2.2.2)
      have h0 := hR.1.trans (if_pos c_48)
      exact rE_z hf hr hlk hw (rfl) ⟨congrArg some (by rw [h0]), u47_j0, u47_j1, ⟨by unfold rsX; rw [h0, if_pos rfl, hR.2.1]; exact u47_s.1, fun h => absurd h0 h⟩, by unfold rsX; rw [h0, if_pos rfl, hR.2.1]⟩ (show ([oh, os, ord, otp, olt] : List Nat) = [oh, os, ord, otp, olt] from rfl) dX11_readsOne_111
    · refine lv_aload_n hx hb dX11_readsOne_96 rfl (lv_at hl 1 rfl) ?_
      refine lv_sipush (v := 259) hx hb dX11_readsOne_97 (by decide) ?_
      by_cases c_49 : f_X7_isSemicolon (wdO byt tpd (f_X7_readLaw_x tpd byt x0 1)) (wdS byt tpd (f_X7_readLaw_x tpd byt x0 1)) byt = 0
      · refine mcVF hf hk hst hw (c_X11_takesN l g oh os ok ol ord odd otp olt orw oso osz oit oho ohe otr stp laws z cnt fogs arms kinds faiths places moved isk tpd u47_j0 rmn tcd own_ opt u47_j1 byt (f_X7_readLaw_x tpd byt x0 1) 259 (by omega) (by assumption) (by omega) (u47_s.1) (fun h => (tk_semi hby).mp h c_49)) (cwV 1 hts gX11_readsOne_X11_takes rfl rfl rfl hdV_X11_takes ⟨Nat.le_of_ble_eq_true rfl, Nat.le_of_ble_eq_true rfl⟩) 0 rfl rfl rfl hl.1 rfl (Nat.le_of_ble_eq_true rfl) dX11_readsOne_100 ⟨Nat.zero_le _, Nat.zero_le _⟩ (fun rv ws2 hPo H locs hw => ?_)
        obtain ⟨rfl, u50_j0, u50_s, rfl⟩ := hPo
        refine lv_if_eq (tgt := 110) hx hb dX11_readsOne_103 (by decide) (fun _ => ?_) (fun q => absurd (by decide) q)
        refine lv_iconst (v := 0) hx hb dX11_readsOne_110 (by decide) ?_
        have hR := rsL1 (byt := byt) (tsz := tpd) (x := x0) (cn := qcnt) (la := qlaws) (fo := qfogs) (ar := qarms) (ki := qkinds) (fs := qfaiths) (ps := qplaces) (hk := by rw [e_1.2.1]; decide) (h6 := e_1.2.2.1) (h7 := e_1.2.2.2.1) (hl := e_1.2.2.2.2)
        have h0 := hR.1.trans ((if_neg c_48).trans (if_pos c_49))
        exact rE_z hf hr hlk hw (rfl) ⟨congrArg some (by rw [h0]), u50_j0, u47_j1, ⟨by unfold rsX; rw [h0, if_pos rfl, hR.2.1]; exact u50_s, fun h => absurd h0 h⟩, by unfold rsX; rw [h0, if_pos rfl, hR.2.1]⟩ (show ([oh, os, ord, otp, olt] : List Nat) = [oh, os, ord, otp, olt] from rfl) dX11_readsOne_111
      · refine mcVF hf hk hst hw (c_X11_takesY l g oh os ok ol ord odd otp olt orw oso osz oit oho ohe otr stp laws z cnt fogs arms kinds faiths places moved isk tpd u47_j0 rmn tcd own_ opt u47_j1 byt (f_X7_readLaw_x tpd byt x0 1) 259 (by omega) (by assumption) (by omega) (u47_s.1) ((tk_semi hby).mpr c_49)) (cwV 1 hts gX11_readsOne_X11_takes rfl rfl rfl hdV_X11_takes ⟨Nat.le_of_ble_eq_true rfl, Nat.le_of_ble_eq_true rfl⟩) 0 rfl rfl rfl hl.1 rfl (Nat.le_of_ble_eq_true rfl) dX11_readsOne_100 ⟨Nat.zero_le _, Nat.zero_le _⟩ (fun rv ws2 hPo H locs hw => ?_)
        obtain ⟨rfl, u51_j0, u51_s, rfl⟩ := hPo
        refine lv_if_eq (tgt := 110) hx hb dX11_readsOne_103 (by decide) (fun q => absurd q (by decide)) (fun _ => ?_)
        refine lv_iconst (v := 1) hx hb dX11_readsOne_106 (by decide) ?_
        refine lv_goto (tgt := 111) hx hb dX11_readsOne_107 (by decide) ?_
        have hR := rsL1 (byt := byt) (tsz := tpd) (x := x0) (cn := qcnt) (la := qlaws) (fo := qfogs) (ar := qarms) (ki := qkinds) (fs := qfaiths) (ps := qplaces) (hk := by rw [e_1.2.1]; decide) (h6 := e_1.2.2.1) (h7 := e_1.2.2.2.1) (hl := e_1.2.2.2.2)
        have h1 := hR.1.trans ((if_neg c_48).trans (if_neg c_49))
        obtain ⟨⟨r1, r2, r3, r4, r5, r6, r7⟩, -⟩ := hR.2.2 c_48 c_49
        exact rE_z hf hr hlk hw (rfl) ⟨congrArg some (by rw [h1]), u51_j0, u47_j1, ⟨by unfold rsX; rw [h1, if_neg (by decide), hR.2.1]; exact u51_s, fun _ => by rw [u47_s.2 c_48, r1, r2, r3, r4, r5, r6, r7]; rfl⟩, by unfold rsX; rw [h1, if_neg (by decide), hR.2.1]⟩ (show ([oh, os, ord, otp, olt] : List Nat) = [oh, os, ord, otp, olt] from rfl) dX11_readsOne_111
  · refine lv_iconst (v := 0) hx hb dX11_readsOne_0 (by decide) ?_
    refine lv_istore_n (lv' := [(1, .int 0), (0, .ref oh)]) hx hb dX11_readsOne_1 rfl hl (by decide) rfl (fun ls hl => ?_)
    refine lv_aload_n hx hb dX11_readsOne_2 rfl (lv_at hl 1 rfl) ?_
    refine rg hf hk hw hinX11 0 rfl rfl 11 (by decide) w_0 rfl dX11_readsOne_3 ?_
    refine lv_tope (y := 10) (e_1.1) ?_
    refine lv_iconst (v := 0) hx hb dX11_readsOne_6 (by decide) ?_
    refine lv_iconst (v := 5) hx hb dX11_readsOne_7 (by decide) ?_
    refine mcS hf hk hst hw (c_X11_in1 l g 10 0 5) (va_cwS 3 hts gX11_readsOne_X11_in1 rfl rfl rfl hdS_X11_in1 ⟨Nat.le_of_ble_eq_true rfl, Nat.le_of_ble_eq_true rfl⟩) [] rfl rfl rfl hl.1 rfl (Nat.le_of_ble_eq_true rfl) dX11_readsOne_8 ⟨Nat.zero_le _, Nat.zero_le _⟩ (W' := [cob oh 11 [.ref os, .ref ok, .ref ol, .ref ord, .int isk, .ref odd, .ref otp, .int (nI tpd), .ref olt, .int (nI (wdE byt tpd x0)), .int (nI (wdS byt tpd x0)), .int (tkF byt tpd x0), .int ovl, .ref orw, .int (nI rmn), .ref oso, .ref osz, .ref oit, .ref oho, .ref ohe, .ref otr, .int (nI tcd), .int own_, .int opt], cin g os 51 (mR stp laws z cnt fogs arms kinds faiths places moved), cin g ord 51 (mR qstp qlaws qz qcnt qfogs qarms qkinds qfaiths qplaces qmoved), cin g otp 200 (ubT byt), cch g olt 120 mlet]) rfl (fun H locs hw => ?_)
    refine lv_if_eq (tgt := 26) hx hb dX11_readsOne_11 (by decide) (fun _ => ?_) (fun q => absurd (by decide) q)
    refine lv_aload_n hx hb dX11_readsOne_26 rfl (lv_at hl 1 rfl) ?_
    refine rg hf hk hw hinX11 0 rfl rfl 11 (by decide) w_0 rfl dX11_readsOne_27 ?_
    refine lv_tope (y := 10) (e_1.1) ?_
    refine lv_bipush (v := 6) hx hb dX11_readsOne_30 (by decide) ?_
    refine lv_bipush (v := 7) hx hb dX11_readsOne_32 (by decide) ?_
    refine mcS hf hk hst hw (c_X11_in1 l g 10 6 7) (va_cwS 3 hts gX11_readsOne_X11_in1 rfl rfl rfl hdS_X11_in1 ⟨Nat.le_of_ble_eq_true rfl, Nat.le_of_ble_eq_true rfl⟩) [] rfl rfl rfl hl.1 rfl (Nat.le_of_ble_eq_true rfl) dX11_readsOne_34 ⟨Nat.zero_le _, Nat.zero_le _⟩ (W' := [cob oh 11 [.ref os, .ref ok, .ref ol, .ref ord, .int isk, .ref odd, .ref otp, .int (nI tpd), .ref olt, .int (nI (wdE byt tpd x0)), .int (nI (wdS byt tpd x0)), .int (tkF byt tpd x0), .int ovl, .ref orw, .int (nI rmn), .ref oso, .ref osz, .ref oit, .ref oho, .ref ohe, .ref otr, .int (nI tcd), .int own_, .int opt], cin g os 51 (mR stp laws z cnt fogs arms kinds faiths places moved), cin g ord 51 (mR qstp qlaws qz qcnt qfogs qarms qkinds qfaiths qplaces qmoved), cin g otp 200 (ubT byt), cch g olt 120 mlet]) rfl (fun H locs hw => ?_)
    refine lv_if_eq (tgt := 64) hx hb dX11_readsOne_37 (by decide) (fun _ => ?_) (fun q => absurd (by decide) q)
    refine lv_aload_n hx hb dX11_readsOne_64 rfl (lv_at hl 1 rfl) ?_
    refine rg hf hk hw hinX11 0 rfl rfl 11 (by decide) w_0 rfl dX11_readsOne_65 ?_
    refine lv_tope (y := 10) (e_1.1) ?_
    refine lv_bipush (v := 8) hx hb dX11_readsOne_68 (by decide) ?_
    refine lv_bipush (v := 11) hx hb dX11_readsOne_70 (by decide) ?_
    refine mcS hf hk hst hw (c_X11_in1 l g 10 8 11) (va_cwS 3 hts gX11_readsOne_X11_in1 rfl rfl rfl hdS_X11_in1 ⟨Nat.le_of_ble_eq_true rfl, Nat.le_of_ble_eq_true rfl⟩) [] rfl rfl rfl hl.1 rfl (Nat.le_of_ble_eq_true rfl) dX11_readsOne_72 ⟨Nat.zero_le _, Nat.zero_le _⟩ (W' := [cob oh 11 [.ref os, .ref ok, .ref ol, .ref ord, .int isk, .ref odd, .ref otp, .int (nI tpd), .ref olt, .int (nI (wdE byt tpd x0)), .int (nI (wdS byt tpd x0)), .int (tkF byt tpd x0), .int ovl, .ref orw, .int (nI rmn), .ref oso, .ref osz, .ref oit, .ref oho, .ref ohe, .ref otr, .int (nI tcd), .int own_, .int opt], cin g os 51 (mR stp laws z cnt fogs arms kinds faiths places moved), cin g ord 51 (mR qstp qlaws qz qcnt qfogs qarms qkinds qfaiths qplaces qmoved), cin g otp 200 (ubT byt), cch g olt 120 mlet]) rfl (fun H locs hw => ?_)
    refine lv_if_eq (tgt := 92) hx hb dX11_readsOne_75 (by decide) (fun q => absurd q (by decide)) (fun _ => ?_)
    refine lv_aload_n hx hb dX11_readsOne_78 rfl (lv_at hl 1 rfl) ?_
    refine lv_aload_n hx hb dX11_readsOne_79 rfl (lv_at hl 1 rfl) ?_
    refine rg hf hk hw hinX11 0 rfl rfl 11 (by decide) w_0 rfl dX11_readsOne_80 ?_
    refine lv_tope (y := 10) (e_1.1) ?_
    refine lv_bipush (v := 8) hx hb dX11_readsOne_83 (by decide) ?_
    refine lv_isub hx hb dX11_readsOne_85 ?_
    refine lv_iconst (v := 1) hx hb dX11_readsOne_86 (by decide) ?_
    refine lv_iadd hx hb dX11_readsOne_87 ?_
    refine lv_tope (y := 3) (by decide) ?_
    refine mcVF hf hk hst hw (c_X11_readsLaw2 l g oh os ok ol ord odd otp olt orw oso osz oit oho ohe otr stp laws z cnt fogs arms kinds faiths places moved isk tpd ovl rmn tcd own_ opt byt x0 qstp qlaws qz qcnt qfogs qarms qkinds qfaiths qplaces qmoved (by omega) (by assumption) (by omega) (hvl)) (cwV 1 hts gX11_readsOne_X11_readsLaw rfl rfl rfl hdV_X11_readsLaw ⟨Nat.le_of_ble_eq_true rfl, Nat.le_of_ble_eq_true rfl⟩) 0 rfl rfl rfl hl.1 rfl (Nat.le_of_ble_eq_true rfl) dX11_readsOne_88 ⟨Nat.zero_le _, Nat.zero_le _⟩ (fun rv ws2 hPo H locs hw => ?_)
    obtain ⟨rfl, u52_j0, u52_j1, u52_s, rfl⟩ := hPo
    refine lv_istore_n (lv' := [(1, .int (lwF byt tpd x0 2)), (0, .ref oh)]) hx hb dX11_readsOne_91 rfl hl (by decide) rfl (fun ls hl => ?_)
    refine lv_iload_n hx hb dX11_readsOne_92 rfl (lv_at hl 0 rfl) ?_
    refine lv_if_eq (tgt := 110) hx hb dX11_readsOne_93 (by decide) (fun c_53 => ?_) (fun c_53 => ?_)
    · refine lv_iconst (v := 0) hx hb dX11_readsOne_110 (by decide) ?_
      have hR := rsL2 (byt := byt) (tsz := tpd) (x := x0) (cn := qcnt) (la := qlaws) (fo := qfogs) (ar := qarms) (ki := qkinds) (fs := qfaiths) (ps := qplaces) (hk := by rw [e_1.2.1]; decide) (h6 := e_1.2.2.1) (h7 := e_1.2.2.2.1) (hl := e_1.2.2.2.2)
      have h0 := hR.1.trans (if_pos c_53)
      exact rE_z hf hr hlk hw (rfl) ⟨congrArg some (by rw [h0]), u52_j0, u52_j1, ⟨by unfold rsX; rw [h0, if_pos rfl, hR.2.1]; exact u52_s.1, fun h => absurd h0 h⟩, by unfold rsX; rw [h0, if_pos rfl, hR.2.1]⟩ (show ([oh, os, ord, otp, olt] : List Nat) = [oh, os, ord, otp, olt] from rfl) dX11_readsOne_111
    · refine lv_aload_n hx hb dX11_readsOne_96 rfl (lv_at hl 1 rfl) ?_
      refine lv_sipush (v := 259) hx hb dX11_readsOne_97 (by decide) ?_
      by_cases c_54 : f_X7_isSemicolon (wdO byt tpd (f_X7_readLaw_x tpd byt x0 2)) (wdS byt tpd (f_X7_readLaw_x tpd byt x0 2)) byt = 0
      · refine mcVF hf hk hst hw (c_X11_takesN l g oh os ok ol ord odd otp olt orw oso osz oit oho ohe otr stp laws z cnt fogs arms kinds faiths places moved isk tpd u52_j0 rmn tcd own_ opt u52_j1 byt (f_X7_readLaw_x tpd byt x0 2) 259 (by omega) (by assumption) (by omega) (u52_s.1) (fun h => (tk_semi hby).mp h c_54)) (cwV 1 hts gX11_readsOne_X11_takes rfl rfl rfl hdV_X11_takes ⟨Nat.le_of_ble_eq_true rfl, Nat.le_of_ble_eq_true rfl⟩) 0 rfl rfl rfl hl.1 rfl (Nat.le_of_ble_eq_true rfl) dX11_readsOne_100 ⟨Nat.zero_le _, Nat.zero_le _⟩ (fun rv ws2 hPo H locs hw => ?_)
        obtain ⟨rfl, u55_j0, u55_s, rfl⟩ := hPo
        refine lv_if_eq (tgt := 110) hx hb dX11_readsOne_103 (by decide) (fun _ => ?_) (fun q => absurd (by decide) q)
        refine lv_iconst (v := 0) hx hb dX11_readsOne_110 (by decide) ?_
        have hR := rsL2 (byt := byt) (tsz := tpd) (x := x0) (cn := qcnt) (la := qlaws) (fo := qfogs) (ar := qarms) (ki := qkinds) (fs := qfaiths) (ps := qplaces) (hk := by rw [e_1.2.1]; decide) (h6 := e_1.2.2.1) (h7 := e_1.2.2.2.1) (hl := e_1.2.2.2.2)
        have h0 := hR.1.trans ((if_neg c_53).trans (if_pos c_54))
        exact rE_z hf hr hlk hw (rfl) ⟨congrArg some (by rw [h0]), u55_j0, u52_j1, ⟨by unfold rsX; rw [h0, if_pos rfl, hR.2.1]; exact u55_s, fun h => absurd h0 h⟩, by unfold rsX; rw [h0, if_pos rfl, hR.2.1]⟩ (show ([oh, os, ord, otp, olt] : List Nat) = [oh, os, ord, otp, olt] from rfl) dX11_readsOne_111
      · refine mcVF hf hk hst hw (c_X11_takesY l g oh os ok ol ord odd otp olt orw oso osz oit oho ohe otr stp laws z cnt fogs arms kinds faiths places moved isk tpd u52_j0 rmn tcd own_ opt u52_j1 byt (f_X7_readLaw_x tpd byt x0 2) 259 (by omega) (by assumption) (by omega) (u52_s.1) ((tk_semi hby).mpr c_54)) (cwV 1 hts gX11_readsOne_X11_takes rfl rfl rfl hdV_X11_takes ⟨Nat.le_of_ble_eq_true rfl, Nat.le_of_ble_eq_true rfl⟩) 0 rfl rfl rfl hl.1 rfl (Nat.le_of_ble_eq_true rfl) dX11_readsOne_100 ⟨Nat.zero_le _, Nat.zero_le _⟩ (fun rv ws2 hPo H locs hw => ?_)
        obtain ⟨rfl, u56_j0, u56_s, rfl⟩ := hPo
        refine lv_if_eq (tgt := 110) hx hb dX11_readsOne_103 (by decide) (fun q => absurd q (by decide)) (fun _ => ?_)
        refine lv_iconst (v := 1) hx hb dX11_readsOne_106 (by decide) ?_
        refine lv_goto (tgt := 111) hx hb dX11_readsOne_107 (by decide) ?_
        have hR := rsL2 (byt := byt) (tsz := tpd) (x := x0) (cn := qcnt) (la := qlaws) (fo := qfogs) (ar := qarms) (ki := qkinds) (fs := qfaiths) (ps := qplaces) (hk := by rw [e_1.2.1]; decide) (h6 := e_1.2.2.1) (h7 := e_1.2.2.2.1) (hl := e_1.2.2.2.2)
        have h1 := hR.1.trans ((if_neg c_53).trans (if_neg c_54))
        obtain ⟨⟨r1, r2, r3, r4, r5, r6, r7⟩, -⟩ := hR.2.2 c_53 c_54
        exact rE_z hf hr hlk hw (rfl) ⟨congrArg some (by rw [h1]), u56_j0, u52_j1, ⟨by unfold rsX; rw [h1, if_neg (by decide), hR.2.1]; exact u56_s, fun _ => by rw [u52_s.2 c_53, r1, r2, r3, r4, r5, r6, r7]; rfl⟩, by unfold rsX; rw [h1, if_neg (by decide), hR.2.1]⟩ (show ([oh, os, ord, otp, olt] : List Nat) = [oh, os, ord, otp, olt] from rfl) dX11_readsOne_111
  · refine lv_iconst (v := 0) hx hb dX11_readsOne_0 (by decide) ?_
    refine lv_istore_n (lv' := [(1, .int 0), (0, .ref oh)]) hx hb dX11_readsOne_1 rfl hl (by decide) rfl (fun ls hl => ?_)
    refine lv_aload_n hx hb dX11_readsOne_2 rfl (lv_at hl 1 rfl) ?_
    refine rg hf hk hw hinX11 0 rfl rfl 11 (by decide) w_0 rfl dX11_readsOne_3 ?_
    refine lv_tope (y := 11) (e_1.1) ?_
    refine lv_iconst (v := 0) hx hb dX11_readsOne_6 (by decide) ?_
    refine lv_iconst (v := 5) hx hb dX11_readsOne_7 (by decide) ?_
    refine mcS hf hk hst hw (c_X11_in1 l g 11 0 5) (va_cwS 3 hts gX11_readsOne_X11_in1 rfl rfl rfl hdS_X11_in1 ⟨Nat.le_of_ble_eq_true rfl, Nat.le_of_ble_eq_true rfl⟩) [] rfl rfl rfl hl.1 rfl (Nat.le_of_ble_eq_true rfl) dX11_readsOne_8 ⟨Nat.zero_le _, Nat.zero_le _⟩ (W' := [cob oh 11 [.ref os, .ref ok, .ref ol, .ref ord, .int isk, .ref odd, .ref otp, .int (nI tpd), .ref olt, .int (nI (wdE byt tpd x0)), .int (nI (wdS byt tpd x0)), .int (tkF byt tpd x0), .int ovl, .ref orw, .int (nI rmn), .ref oso, .ref osz, .ref oit, .ref oho, .ref ohe, .ref otr, .int (nI tcd), .int own_, .int opt], cin g os 51 (mR stp laws z cnt fogs arms kinds faiths places moved), cin g ord 51 (mR qstp qlaws qz qcnt qfogs qarms qkinds qfaiths qplaces qmoved), cin g otp 200 (ubT byt), cch g olt 120 mlet]) rfl (fun H locs hw => ?_)
    refine lv_if_eq (tgt := 26) hx hb dX11_readsOne_11 (by decide) (fun _ => ?_) (fun q => absurd (by decide) q)
    refine lv_aload_n hx hb dX11_readsOne_26 rfl (lv_at hl 1 rfl) ?_
    refine rg hf hk hw hinX11 0 rfl rfl 11 (by decide) w_0 rfl dX11_readsOne_27 ?_
    refine lv_tope (y := 11) (e_1.1) ?_
    refine lv_bipush (v := 6) hx hb dX11_readsOne_30 (by decide) ?_
    refine lv_bipush (v := 7) hx hb dX11_readsOne_32 (by decide) ?_
    refine mcS hf hk hst hw (c_X11_in1 l g 11 6 7) (va_cwS 3 hts gX11_readsOne_X11_in1 rfl rfl rfl hdS_X11_in1 ⟨Nat.le_of_ble_eq_true rfl, Nat.le_of_ble_eq_true rfl⟩) [] rfl rfl rfl hl.1 rfl (Nat.le_of_ble_eq_true rfl) dX11_readsOne_34 ⟨Nat.zero_le _, Nat.zero_le _⟩ (W' := [cob oh 11 [.ref os, .ref ok, .ref ol, .ref ord, .int isk, .ref odd, .ref otp, .int (nI tpd), .ref olt, .int (nI (wdE byt tpd x0)), .int (nI (wdS byt tpd x0)), .int (tkF byt tpd x0), .int ovl, .ref orw, .int (nI rmn), .ref oso, .ref osz, .ref oit, .ref oho, .ref ohe, .ref otr, .int (nI tcd), .int own_, .int opt], cin g os 51 (mR stp laws z cnt fogs arms kinds faiths places moved), cin g ord 51 (mR qstp qlaws qz qcnt qfogs qarms qkinds qfaiths qplaces qmoved), cin g otp 200 (ubT byt), cch g olt 120 mlet]) rfl (fun H locs hw => ?_)
    refine lv_if_eq (tgt := 64) hx hb dX11_readsOne_37 (by decide) (fun _ => ?_) (fun q => absurd (by decide) q)
    refine lv_aload_n hx hb dX11_readsOne_64 rfl (lv_at hl 1 rfl) ?_
    refine rg hf hk hw hinX11 0 rfl rfl 11 (by decide) w_0 rfl dX11_readsOne_65 ?_
    refine lv_tope (y := 11) (e_1.1) ?_
    refine lv_bipush (v := 8) hx hb dX11_readsOne_68 (by decide) ?_
    refine lv_bipush (v := 11) hx hb dX11_readsOne_70 (by decide) ?_
    refine mcS hf hk hst hw (c_X11_in1 l g 11 8 11) (va_cwS 3 hts gX11_readsOne_X11_in1 rfl rfl rfl hdS_X11_in1 ⟨Nat.le_of_ble_eq_true rfl, Nat.le_of_ble_eq_true rfl⟩) [] rfl rfl rfl hl.1 rfl (Nat.le_of_ble_eq_true rfl) dX11_readsOne_72 ⟨Nat.zero_le _, Nat.zero_le _⟩ (W' := [cob oh 11 [.ref os, .ref ok, .ref ol, .ref ord, .int isk, .ref odd, .ref otp, .int (nI tpd), .ref olt, .int (nI (wdE byt tpd x0)), .int (nI (wdS byt tpd x0)), .int (tkF byt tpd x0), .int ovl, .ref orw, .int (nI rmn), .ref oso, .ref osz, .ref oit, .ref oho, .ref ohe, .ref otr, .int (nI tcd), .int own_, .int opt], cin g os 51 (mR stp laws z cnt fogs arms kinds faiths places moved), cin g ord 51 (mR qstp qlaws qz qcnt qfogs qarms qkinds qfaiths qplaces qmoved), cin g otp 200 (ubT byt), cch g olt 120 mlet]) rfl (fun H locs hw => ?_)
    refine lv_if_eq (tgt := 92) hx hb dX11_readsOne_75 (by decide) (fun q => absurd q (by decide)) (fun _ => ?_)
    refine lv_aload_n hx hb dX11_readsOne_78 rfl (lv_at hl 1 rfl) ?_
    refine lv_aload_n hx hb dX11_readsOne_79 rfl (lv_at hl 1 rfl) ?_
    refine rg hf hk hw hinX11 0 rfl rfl 11 (by decide) w_0 rfl dX11_readsOne_80 ?_
    refine lv_tope (y := 11) (e_1.1) ?_
    refine lv_bipush (v := 8) hx hb dX11_readsOne_83 (by decide) ?_
    refine lv_isub hx hb dX11_readsOne_85 ?_
    refine lv_iconst (v := 1) hx hb dX11_readsOne_86 (by decide) ?_
    refine lv_iadd hx hb dX11_readsOne_87 ?_
    refine lv_tope (y := 4) (by decide) ?_
    refine mcVF hf hk hst hw (c_X11_readsLaw3 l g oh os ok ol ord odd otp olt orw oso osz oit oho ohe otr stp laws z cnt fogs arms kinds faiths places moved isk tpd ovl rmn tcd own_ opt byt x0 qstp qlaws qz qcnt qfogs qarms qkinds qfaiths qplaces qmoved (by omega) (by assumption) (by omega) (hvl)) (cwV 1 hts gX11_readsOne_X11_readsLaw rfl rfl rfl hdV_X11_readsLaw ⟨Nat.le_of_ble_eq_true rfl, Nat.le_of_ble_eq_true rfl⟩) 0 rfl rfl rfl hl.1 rfl (Nat.le_of_ble_eq_true rfl) dX11_readsOne_88 ⟨Nat.zero_le _, Nat.zero_le _⟩ (fun rv ws2 hPo H locs hw => ?_)
    obtain ⟨rfl, u57_j0, u57_j1, u57_s, rfl⟩ := hPo
    refine lv_istore_n (lv' := [(1, .int (lwF byt tpd x0 3)), (0, .ref oh)]) hx hb dX11_readsOne_91 rfl hl (by decide) rfl (fun ls hl => ?_)
    refine lv_iload_n hx hb dX11_readsOne_92 rfl (lv_at hl 0 rfl) ?_
    refine lv_if_eq (tgt := 110) hx hb dX11_readsOne_93 (by decide) (fun c_58 => ?_) (fun c_58 => ?_)
    · refine lv_iconst (v := 0) hx hb dX11_readsOne_110 (by decide) ?_
      have hR := rsL3 (byt := byt) (tsz := tpd) (x := x0) (cn := qcnt) (la := qlaws) (fo := qfogs) (ar := qarms) (ki := qkinds) (fs := qfaiths) (ps := qplaces) (hk := by rw [e_1.2.1]; decide) (h6 := e_1.2.2.1) (h7 := e_1.2.2.2.1) (hl := e_1.2.2.2.2)
      have h0 := hR.1.trans (if_pos c_58)
      exact rE_z hf hr hlk hw (rfl) ⟨congrArg some (by rw [h0]), u57_j0, u57_j1, ⟨by unfold rsX; rw [h0, if_pos rfl, hR.2.1]; exact u57_s.1, fun h => absurd h0 h⟩, by unfold rsX; rw [h0, if_pos rfl, hR.2.1]⟩ (show ([oh, os, ord, otp, olt] : List Nat) = [oh, os, ord, otp, olt] from rfl) dX11_readsOne_111
    · refine lv_aload_n hx hb dX11_readsOne_96 rfl (lv_at hl 1 rfl) ?_
      refine lv_sipush (v := 259) hx hb dX11_readsOne_97 (by decide) ?_
      by_cases c_59 : f_X7_isSemicolon (wdO byt tpd (f_X7_readLaw_x tpd byt x0 3)) (wdS byt tpd (f_X7_readLaw_x tpd byt x0 3)) byt = 0
      · refine mcVF hf hk hst hw (c_X11_takesN l g oh os ok ol ord odd otp olt orw oso osz oit oho ohe otr stp laws z cnt fogs arms kinds faiths places moved isk tpd u57_j0 rmn tcd own_ opt u57_j1 byt (f_X7_readLaw_x tpd byt x0 3) 259 (by omega) (by assumption) (by omega) (u57_s.1) (fun h => (tk_semi hby).mp h c_59)) (cwV 1 hts gX11_readsOne_X11_takes rfl rfl rfl hdV_X11_takes ⟨Nat.le_of_ble_eq_true rfl, Nat.le_of_ble_eq_true rfl⟩) 0 rfl rfl rfl hl.1 rfl (Nat.le_of_ble_eq_true rfl) dX11_readsOne_100 ⟨Nat.zero_le _, Nat.zero_le _⟩ (fun rv ws2 hPo H locs hw => ?_)
        obtain ⟨rfl, u60_j0, u60_s, rfl⟩ := hPo
        refine lv_if_eq (tgt := 110) hx hb dX11_readsOne_103 (by decide) (fun _ => ?_) (fun q => absurd (by decide) q)
        refine lv_iconst (v := 0) hx hb dX11_readsOne_110 (by decide) ?_
        have hR := rsL3 (byt := byt) (tsz := tpd) (x := x0) (cn := qcnt) (la := qlaws) (fo := qfogs) (ar := qarms) (ki := qkinds) (fs := qfaiths) (ps := qplaces) (hk := by rw [e_1.2.1]; decide) (h6 := e_1.2.2.1) (h7 := e_1.2.2.2.1) (hl := e_1.2.2.2.2)
        have h0 := hR.1.trans ((if_neg c_58).trans (if_pos c_59))
        exact rE_z hf hr hlk hw (rfl) ⟨congrArg some (by rw [h0]), u60_j0, u57_j1, ⟨by unfold rsX; rw [h0, if_pos rfl, hR.2.1]; exact u60_s, fun h => absurd h0 h⟩, by unfold rsX; rw [h0, if_pos rfl, hR.2.1]⟩ (show ([oh, os, ord, otp, olt] : List Nat) = [oh, os, ord, otp, olt] from rfl) dX11_readsOne_111
      · refine mcVF hf hk hst hw (c_X11_takesY l g oh os ok ol ord odd otp olt orw oso osz oit oho ohe otr stp laws z cnt fogs arms kinds faiths places moved isk tpd u57_j0 rmn tcd own_ opt u57_j1 byt (f_X7_readLaw_x tpd byt x0 3) 259 (by omega) (by assumption) (by omega) (u57_s.1) ((tk_semi hby).mpr c_59)) (cwV 1 hts gX11_readsOne_X11_takes rfl rfl rfl hdV_X11_takes ⟨Nat.le_of_ble_eq_true rfl, Nat.le_of_ble_eq_true rfl⟩) 0 rfl rfl rfl hl.1 rfl (Nat.le_of_ble_eq_true rfl) dX11_readsOne_100 ⟨Nat.zero_le _, Nat.zero_le _⟩ (fun rv ws2 hPo H locs hw => ?_)
        obtain ⟨rfl, u61_j0, u61_s, rfl⟩ := hPo
        refine lv_if_eq (tgt := 110) hx hb dX11_readsOne_103 (by decide) (fun q => absurd q (by decide)) (fun _ => ?_)
        refine lv_iconst (v := 1) hx hb dX11_readsOne_106 (by decide) ?_
        refine lv_goto (tgt := 111) hx hb dX11_readsOne_107 (by decide) ?_
        have hR := rsL3 (byt := byt) (tsz := tpd) (x := x0) (cn := qcnt) (la := qlaws) (fo := qfogs) (ar := qarms) (ki := qkinds) (fs := qfaiths) (ps := qplaces) (hk := by rw [e_1.2.1]; decide) (h6 := e_1.2.2.1) (h7 := e_1.2.2.2.1) (hl := e_1.2.2.2.2)
        have h1 := hR.1.trans ((if_neg c_58).trans (if_neg c_59))
        obtain ⟨⟨r1, r2, r3, r4, r5, r6, r7⟩, -⟩ := hR.2.2 c_58 c_59
        exact rE_z hf hr hlk hw (rfl) ⟨congrArg some (by rw [h1]), u61_j0, u57_j1, ⟨by unfold rsX; rw [h1, if_neg (by decide), hR.2.1]; exact u61_s, fun _ => by rw [u57_s.2 c_58, r1, r2, r3, r4, r5, r6, r7]; rfl⟩, by unfold rsX; rw [h1, if_neg (by decide), hR.2.1]⟩ (show ([oh, os, ord, otp, olt] : List Nat) = [oh, os, ord, otp, olt] from rfl) dX11_readsOne_111
  · refine lv_iconst (v := 0) hx hb dX11_readsOne_0 (by decide) ?_
    refine lv_istore_n (lv' := [(1, .int 0), (0, .ref oh)]) hx hb dX11_readsOne_1 rfl hl (by decide) rfl (fun ls hl => ?_)
    refine lv_aload_n hx hb dX11_readsOne_2 rfl (lv_at hl 1 rfl) ?_
    refine rg hf hk hw hinX11 0 rfl rfl 11 (by decide) w_0 rfl dX11_readsOne_3 ?_
    refine lv_tope (y := tkF byt tpd x0) (rfl) ?_
    refine lv_iconst (v := 0) hx hb dX11_readsOne_6 (by decide) ?_
    refine lv_iconst (v := 5) hx hb dX11_readsOne_7 (by decide) ?_
    refine mcS hf hk hst hw (c_X11_in1 l g (tkF byt tpd x0) 0 5) (va_cwS 3 hts gX11_readsOne_X11_in1 rfl rfl rfl hdS_X11_in1 ⟨Nat.le_of_ble_eq_true rfl, Nat.le_of_ble_eq_true rfl⟩) [] rfl rfl rfl hl.1 rfl (Nat.le_of_ble_eq_true rfl) dX11_readsOne_8 ⟨Nat.zero_le _, Nat.zero_le _⟩ (W' := [cob oh 11 [.ref os, .ref ok, .ref ol, .ref ord, .int isk, .ref odd, .ref otp, .int (nI tpd), .ref olt, .int (nI (wdE byt tpd x0)), .int (nI (wdS byt tpd x0)), .int (tkF byt tpd x0), .int ovl, .ref orw, .int (nI rmn), .ref oso, .ref osz, .ref oit, .ref oho, .ref ohe, .ref otr, .int (nI tcd), .int own_, .int opt], cin g os 51 (mR stp laws z cnt fogs arms kinds faiths places moved), cin g ord 51 (mR qstp qlaws qz qcnt qfogs qarms qkinds qfaiths qplaces qmoved), cin g otp 200 (ubT byt), cch g olt 120 mlet]) rfl (fun H locs hw => ?_)
    refine lv_if_eq (tgt := 26) hx hb dX11_readsOne_11 (by decide) (fun _ => ?_) (fun q => absurd (e_1.1.1) q)
    refine lv_aload_n hx hb dX11_readsOne_26 rfl (lv_at hl 1 rfl) ?_
    refine rg hf hk hw hinX11 0 rfl rfl 11 (by decide) w_0 rfl dX11_readsOne_27 ?_
    refine lv_tope (y := tkF byt tpd x0) (rfl) ?_
    refine lv_bipush (v := 6) hx hb dX11_readsOne_30 (by decide) ?_
    refine lv_bipush (v := 7) hx hb dX11_readsOne_32 (by decide) ?_
    refine mcS hf hk hst hw (c_X11_in1 l g (tkF byt tpd x0) 6 7) (va_cwS 3 hts gX11_readsOne_X11_in1 rfl rfl rfl hdS_X11_in1 ⟨Nat.le_of_ble_eq_true rfl, Nat.le_of_ble_eq_true rfl⟩) [] rfl rfl rfl hl.1 rfl (Nat.le_of_ble_eq_true rfl) dX11_readsOne_34 ⟨Nat.zero_le _, Nat.zero_le _⟩ (W' := [cob oh 11 [.ref os, .ref ok, .ref ol, .ref ord, .int isk, .ref odd, .ref otp, .int (nI tpd), .ref olt, .int (nI (wdE byt tpd x0)), .int (nI (wdS byt tpd x0)), .int (tkF byt tpd x0), .int ovl, .ref orw, .int (nI rmn), .ref oso, .ref osz, .ref oit, .ref oho, .ref ohe, .ref otr, .int (nI tcd), .int own_, .int opt], cin g os 51 (mR stp laws z cnt fogs arms kinds faiths places moved), cin g ord 51 (mR qstp qlaws qz qcnt qfogs qarms qkinds qfaiths qplaces qmoved), cin g otp 200 (ubT byt), cch g olt 120 mlet]) rfl (fun H locs hw => ?_)
    refine lv_if_eq (tgt := 64) hx hb dX11_readsOne_37 (by decide) (fun _ => ?_) (fun q => absurd (e_1.1.2.1) q)
    refine lv_aload_n hx hb dX11_readsOne_64 rfl (lv_at hl 1 rfl) ?_
    refine rg hf hk hw hinX11 0 rfl rfl 11 (by decide) w_0 rfl dX11_readsOne_65 ?_
    refine lv_tope (y := tkF byt tpd x0) (rfl) ?_
    refine lv_bipush (v := 8) hx hb dX11_readsOne_68 (by decide) ?_
    refine lv_bipush (v := 11) hx hb dX11_readsOne_70 (by decide) ?_
    refine mcS hf hk hst hw (c_X11_in1 l g (tkF byt tpd x0) 8 11) (va_cwS 3 hts gX11_readsOne_X11_in1 rfl rfl rfl hdS_X11_in1 ⟨Nat.le_of_ble_eq_true rfl, Nat.le_of_ble_eq_true rfl⟩) [] rfl rfl rfl hl.1 rfl (Nat.le_of_ble_eq_true rfl) dX11_readsOne_72 ⟨Nat.zero_le _, Nat.zero_le _⟩ (W' := [cob oh 11 [.ref os, .ref ok, .ref ol, .ref ord, .int isk, .ref odd, .ref otp, .int (nI tpd), .ref olt, .int (nI (wdE byt tpd x0)), .int (nI (wdS byt tpd x0)), .int (tkF byt tpd x0), .int ovl, .ref orw, .int (nI rmn), .ref oso, .ref osz, .ref oit, .ref oho, .ref ohe, .ref otr, .int (nI tcd), .int own_, .int opt], cin g os 51 (mR stp laws z cnt fogs arms kinds faiths places moved), cin g ord 51 (mR qstp qlaws qz qcnt qfogs qarms qkinds qfaiths qplaces qmoved), cin g otp 200 (ubT byt), cch g olt 120 mlet]) rfl (fun H locs hw => ?_)
    refine lv_if_eq (tgt := 92) hx hb dX11_readsOne_75 (by decide) (fun _ => ?_) (fun q => absurd (e_1.1.2.2) q)
    refine lv_iload_n hx hb dX11_readsOne_92 rfl (lv_at hl 0 rfl) ?_
    refine lv_if_eq (tgt := 110) hx hb dX11_readsOne_93 (by decide) (fun _ => ?_) (fun q => absurd (by decide) q)
    refine lv_iconst (v := 0) hx hb dX11_readsOne_110 (by decide) ?_
    have hR := rsN (byt := byt) (tsz := tpd) (x := x0) (cn := qcnt) (by rw [e_1.2.1]; decide) e_1.2.2.1 e_1.2.2.2.1 (by rw [e_1.2.2.2.2]; decide)
    exact rE_z hf hr hlk hw (rfl) ⟨congrArg some (by rw [hR.1]), ovl, (mR qstp qlaws qz qcnt qfogs qarms qkinds qfaiths qplaces qmoved), ⟨by unfold rsX; rw [hR.1, if_pos rfl, hR.2]; exact hvl, fun h => absurd hR.1 h⟩, by unfold rsX; rw [hR.1, if_pos rfl, hR.2]⟩ (show ([oh, os, ord, otp, olt] : List Nat) = [oh, os, ord, otp, olt] from rfl) dX11_readsOne_111
