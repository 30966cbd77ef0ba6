theorem rd_pl {byt : Nat → Int32} {tsz x : Nat} (h : 0 ≤ rdN byt tsz x 11) : plOk (rdN byt tsz x 11) := by
  have hn := rdN_n (N := 11) rfl (by decide) h
  rw [hn.1]
  have := hn.2
  exact ⟨by rw [nI_toInt (by omega)]; omega, by rw [nI_toInt (by omega)]; omega⟩
/-- what a goer's sentence does to the rows, whatever they hold -/
theorem rg_ag {byt : Nat → Int32} {tsz x cn : Nat} (hc : cn ≤ 8) : (f_X7_readGoer_w1 tsz byt x cn = cn ∧ ∀ (ki fs ps ms : Nat → Int32) (kd : Int32), f_X7_readGoer_w2 tsz byt x ki cn kd = ki ∧ f_X7_readGoer_w3 tsz byt x fs cn = fs ∧ f_X7_readGoer_w4 tsz byt x ps cn = ps ∧ f_X7_readGoer_w5 tsz byt x ms cn = ms) ∨
    (f_X7_readGoer_w1 tsz byt x cn = cn + 1 ∧ cn < 8 ∧ ∃ b c : Int32, plOk c ∧ ∀ (ki fs ps ms : Nat → Int32) (kd : Int32), f_X7_readGoer_w2 tsz byt x ki cn kd = upd ki cn kd ∧ f_X7_readGoer_w3 tsz byt x fs cn = upd fs cn b ∧ f_X7_readGoer_w4 tsz byt x ps cn = upd ps cn c ∧ f_X7_readGoer_w5 tsz byt x ms cn = upd ms cn 0) := by
  by_cases h8 : nI cn < 8
  · by_cases a12 : nmR byt (wdO byt tsz (wdE byt tsz x)) (wdS byt tsz (wdE byt tsz x)) (wdE byt tsz (wdE byt tsz x)) 12 = 0
    · exact Or.inl ⟨by simp only [f_X7_readGoer_w1, if_pos h8, if_pos a12], fun ki fs ps ms kd => ⟨by simp only [f_X7_readGoer_w2, if_pos h8, if_pos a12], by simp only [f_X7_readGoer_w3, if_pos h8, if_pos a12], by simp only [f_X7_readGoer_w4, if_pos h8, if_pos a12], by simp only [f_X7_readGoer_w5, if_pos h8, if_pos a12]⟩⟩
    · by_cases a11 : 0 ≤ rdN byt tsz (wdE byt tsz (wdE byt tsz x)) 11
      · by_cases a14 : nmR byt (wdO byt tsz (wdE byt tsz (wdE byt tsz (wdE byt tsz x)))) (wdS byt tsz (wdE byt tsz (wdE byt tsz (wdE byt tsz x)))) (wdE byt tsz (wdE byt tsz (wdE byt tsz (wdE byt tsz x)))) 14 = 0
        · by_cases s3 : f_X7_isSemicolon (wdO byt tsz (wdE byt tsz (wdE byt tsz (wdE byt tsz x)))) (wdS byt tsz (wdE byt tsz (wdE byt tsz (wdE byt tsz x)))) byt = 0
          · exact Or.inl ⟨by simp only [f_X7_readGoer_w1, if_pos h8, if_neg a12, if_pos a11, if_pos a14, if_pos s3], fun ki fs ps ms kd => ⟨by simp only [f_X7_readGoer_w2, if_pos h8, if_neg a12, if_pos a11, if_pos a14, if_pos s3], by simp only [f_X7_readGoer_w3, if_pos h8, if_neg a12, if_pos a11, if_pos a14, if_pos s3], by simp only [f_X7_readGoer_w4, if_pos h8, if_neg a12, if_pos a11, if_pos a14, if_pos s3], by simp only [f_X7_readGoer_w5, if_pos h8, if_neg a12, if_pos a11, if_pos a14, if_pos s3]⟩⟩
          · exact Or.inr ⟨by simp only [f_X7_readGoer_w1, if_pos h8, if_neg a12, if_pos a11, if_pos a14, if_neg s3], (nI_ltI (b := 8) (by omega) (by omega)).mp h8, 50, rdN byt tsz (wdE byt tsz (wdE byt tsz x)) 11, rd_pl a11, fun ki fs ps ms kd => ⟨by simp only [f_X7_readGoer_w2, if_pos h8, if_neg a12, if_pos a11, if_pos a14, if_neg s3], by simp only [f_X7_readGoer_w3, if_pos h8, if_neg a12, if_pos a11, if_pos a14, if_neg s3], by simp only [f_X7_readGoer_w4, if_pos h8, if_neg a12, if_pos a11, if_pos a14, if_neg s3], by simp only [f_X7_readGoer_w5, if_pos h8, if_neg a12, if_pos a11, if_pos a14, if_neg s3]⟩⟩
        · by_cases a99 : 0 ≤ rdN byt tsz (wdE byt tsz (wdE byt tsz (wdE byt tsz (wdE byt tsz x)))) 99
          · by_cases s5 : f_X7_isSemicolon (wdO byt tsz (wdE byt tsz (wdE byt tsz (wdE byt tsz (wdE byt tsz (wdE byt tsz x)))))) (wdS byt tsz (wdE byt tsz (wdE byt tsz (wdE byt tsz (wdE byt tsz (wdE byt tsz x)))))) byt = 0
            · exact Or.inl ⟨by simp only [f_X7_readGoer_w1, if_pos h8, if_neg a12, if_pos a11, if_neg a14, if_pos a99, if_pos s5], fun ki fs ps ms kd => ⟨by simp only [f_X7_readGoer_w2, if_pos h8, if_neg a12, if_pos a11, if_neg a14, if_pos a99, if_pos s5], by simp only [f_X7_readGoer_w3, if_pos h8, if_neg a12, if_pos a11, if_neg a14, if_pos a99, if_pos s5], by simp only [f_X7_readGoer_w4, if_pos h8, if_neg a12, if_pos a11, if_neg a14, if_pos a99, if_pos s5], by simp only [f_X7_readGoer_w5, if_pos h8, if_neg a12, if_pos a11, if_neg a14, if_pos a99, if_pos s5]⟩⟩
            · exact Or.inr ⟨by simp only [f_X7_readGoer_w1, if_pos h8, if_neg a12, if_pos a11, if_neg a14, if_pos a99, if_neg s5], (nI_ltI (b := 8) (by omega) (by omega)).mp h8, rdN byt tsz (wdE byt tsz (wdE byt tsz (wdE byt tsz (wdE byt tsz x)))) 99, rdN byt tsz (wdE byt tsz (wdE byt tsz x)) 11, rd_pl a11, fun ki fs ps ms kd => ⟨by simp only [f_X7_readGoer_w2, if_pos h8, if_neg a12, if_pos a11, if_neg a14, if_pos a99, if_neg s5], by simp only [f_X7_readGoer_w3, if_pos h8, if_neg a12, if_pos a11, if_neg a14, if_pos a99, if_neg s5], by simp only [f_X7_readGoer_w4, if_pos h8, if_neg a12, if_pos a11, if_neg a14, if_pos a99, if_neg s5], by simp only [f_X7_readGoer_w5, if_pos h8, if_neg a12, if_pos a11, if_neg a14, if_pos a99, if_neg s5]⟩⟩
          · exact Or.inl ⟨by simp only [f_X7_readGoer_w1, if_pos h8, if_neg a12, if_pos a11, if_neg a14, if_neg a99], fun ki fs ps ms kd => ⟨by simp only [f_X7_readGoer_w2, if_pos h8, if_neg a12, if_pos a11, if_neg a14, if_neg a99], by simp only [f_X7_readGoer_w3, if_pos h8, if_neg a12, if_pos a11, if_neg a14, if_neg a99], by simp only [f_X7_readGoer_w4, if_pos h8, if_neg a12, if_pos a11, if_neg a14, if_neg a99], by simp only [f_X7_readGoer_w5, if_pos h8, if_neg a12, if_pos a11, if_neg a14, if_neg a99]⟩⟩
      · exact Or.inl ⟨by simp only [f_X7_readGoer_w1, if_pos h8, if_neg a12, if_neg a11], fun ki fs ps ms kd => ⟨by simp only [f_X7_readGoer_w2, if_pos h8, if_neg a12, if_neg a11], by simp only [f_X7_readGoer_w3, if_pos h8, if_neg a12, if_neg a11], by simp only [f_X7_readGoer_w4, if_pos h8, if_neg a12, if_neg a11], by simp only [f_X7_readGoer_w5, if_pos h8, if_neg a12, if_neg a11]⟩⟩
  · exact Or.inl ⟨by simp only [f_X7_readGoer_w1, if_neg h8], fun ki fs ps ms kd => ⟨by simp only [f_X7_readGoer_w2, if_neg h8], by simp only [f_X7_readGoer_w3, if_neg h8], by simp only [f_X7_readGoer_w4, if_neg h8], by simp only [f_X7_readGoer_w5, if_neg h8]⟩⟩
theorem kn_K {tso : Int32} {ws we : Nat} {byt : Nat → Int32} (h : ¬ f_X7_kindNamed tso ws we byt < 0) : isK (f_X7_kindNamed tso ws we byt) := by
  unfold f_X7_kindNamed at h ⊢
  by_cases h0 : nmR byt tso ws we 0 = 0
  · rw [if_pos h0] at h ⊢
    by_cases h1 : nmR byt tso ws we 1 = 0
    · rw [if_pos h1] at h ⊢
      by_cases h2 : nmR byt tso ws we 2 = 0
      · rw [if_pos h2] at h ⊢
        by_cases h3 : nmR byt tso ws we 3 = 0
        · rw [if_pos h3] at h ⊢
          by_cases h4 : nmR byt tso ws we 4 = 0
          · rw [if_pos h4] at h ⊢
            by_cases h5 : nmR byt tso ws we 5 = 0
            · rw [if_pos h5] at h; exact absurd (by decide) h
            · rw [if_neg h5]; exact Or.inr (Or.inr (Or.inr (Or.inr (Or.inr rfl))))
          · rw [if_neg h4]; exact Or.inr (Or.inr (Or.inr (Or.inr (Or.inl rfl))))
        · rw [if_neg h3]; exact Or.inr (Or.inr (Or.inr (Or.inl rfl)))
      · rw [if_neg h2]; exact Or.inr (Or.inr (Or.inl rfl))
    · rw [if_neg h1]; exact Or.inr (Or.inl rfl)
  · rw [if_neg h0]; exact Or.inl rfl
theorem rs_RN {byt : Nat → Int32} {tsz x cn i : Nat} {k f p m k' f' p' m' : Nat → Int32} (h : RN i cn 0 k f p m k' f' p' m') : RN i (f_X7_readSentence_w1 tsz byt x cn) 0 (f_X7_readSentence_w5 tsz byt x k cn) (f_X7_readSentence_w6 tsz byt x f cn) (f_X7_readSentence_w7 tsz byt x p cn) (f_X7_readSentence_w8 tsz byt x m cn) (f_X7_readSentence_w5 tsz byt x k' cn) (f_X7_readSentence_w6 tsz byt x f' cn) (f_X7_readSentence_w7 tsz byt x p' cn) (f_X7_readSentence_w8 tsz byt x m' cn) := by
  unfold f_X7_readSentence_w1 f_X7_readSentence_w5 f_X7_readSentence_w6 f_X7_readSentence_w7 f_X7_readSentence_w8
  by_cases hk : f_X7_kindNamed (wdO byt tsz x) (wdS byt tsz x) (wdE byt tsz x) byt < 0
  · simp only [if_pos hk]; exact h
  · simp only [if_neg hk]
    have hK := kn_K hk
    generalize f_X7_kindNamed (wdO byt tsz x) (wdS byt tsz x) (wdE byt tsz x) byt = kd at hK
    rcases rg_ag (byt := byt) (tsz := tsz) (x := x) h.1 with ⟨a, b⟩ | ⟨a, c8, b, c, hc, d⟩
    · rw [a, (b k f p m kd).1, (b k f p m kd).2.1, (b k f p m kd).2.2.1, (b k f p m kd).2.2.2, (b k' f' p' m' kd).1, (b k' f' p' m' kd).2.1, (b k' f' p' m' kd).2.2.1, (b k' f' p' m' kd).2.2.2]; exact h
    · rw [a, (d k f p m kd).1, (d k f p m kd).2.1, (d k f p m kd).2.2.1, (d k f p m kd).2.2.2, (d k' f' p' m' kd).1, (d k' f' p' m' kd).2.1, (d k' f' p' m' kd).2.2.1, (d k' f' p' m' kd).2.2.2]
      exact ⟨by omega, h.2.1, upd_ag h.2.2.1, upd_ag h.2.2.2.1, upd_ag h.2.2.2.2.1, upd_ag h.2.2.2.2.2.1, upd_all h.2.2.2.2.2.2.1 hK, upd_all h.2.2.2.2.2.2.2.1 hc, upd_all h.2.2.2.2.2.2.2.2 ⟨by decide, by decide⟩⟩
theorem rI_RN {byt : Nat → Int32} {tsz i : Nat} : ∀ (n x cn : Nat) (la fo ar k f p m k' f' p' m' : Nat → Int32), RN i cn 0 k f p m k' f' p' m' →
    (rI byt tsz n x cn la fo ar k f p m).1 = (rI byt tsz n x cn la fo ar k' f' p' m').1 ∧ (rI byt tsz n x cn la fo ar k f p m).2.2.1 = (rI byt tsz n x cn la fo ar k' f' p' m').2.2.1 ∧ (rI byt tsz n x cn la fo ar k f p m).2.2.2.1 = (rI byt tsz n x cn la fo ar k' f' p' m').2.2.2.1 ∧ (rI byt tsz n x cn la fo ar k f p m).2.2.2.2.1 = (rI byt tsz n x cn la fo ar k' f' p' m').2.2.2.2.1 ∧ (rI byt tsz n x cn la fo ar k f p m).2.2.2.2.2.1 = (rI byt tsz n x cn la fo ar k' f' p' m').2.2.2.2.2.1 ∧
    RN i (rI byt tsz n x cn la fo ar k f p m).2.2.1 0 (rI byt tsz n x cn la fo ar k f p m).2.2.2.2.2.2.1 (rI byt tsz n x cn la fo ar k f p m).2.2.2.2.2.2.2.1 (rI byt tsz n x cn la fo ar k f p m).2.2.2.2.2.2.2.2.1 (rI byt tsz n x cn la fo ar k f p m).2.2.2.2.2.2.2.2.2 (rI byt tsz n x cn la fo ar k' f' p' m').2.2.2.2.2.2.1 (rI byt tsz n x cn la fo ar k' f' p' m').2.2.2.2.2.2.2.1 (rI byt tsz n x cn la fo ar k' f' p' m').2.2.2.2.2.2.2.2.1 (rI byt tsz n x cn la fo ar k' f' p' m').2.2.2.2.2.2.2.2.2
  | 0, x, cn, la, fo, ar, k, f, p, m, k', f', p', m', h => ⟨rfl, rfl, rfl, rfl, rfl, h⟩
  | n + 1, x, cn, la, fo, ar, k, f, p, m, k', f', p', m', h => by
    unfold rI
    by_cases h1 : wdO byt tsz x = 0
    · simp only [if_pos h1]; exact ⟨trivial, trivial, trivial, trivial, trivial, h⟩
    · simp only [if_neg h1]
      by_cases h2 : f_X7_readSentence tsz byt x cn = 0
      · simp only [if_pos h2]; exact ⟨trivial, trivial, trivial, trivial, trivial, rs_RN h⟩
      · simp only [if_neg h2]; exact rI_RN n _ _ _ _ _ _ _ _ _ _ _ _ _ (rs_RN h)
theorem rI_Z {byt : Nat → Int32} {tsz : Nat} : ∀ (n x cn : Nat) (la fo ar k f p : Nat → Int32), (rI byt tsz n x cn la fo ar k f p (fun _ => 0)).2.2.2.2.2.2.2.2.2 = fun _ => 0
  | 0, x, cn, la, fo, ar, k, f, p => rfl
  | n + 1, x, cn, la, fo, ar, k, f, p => by
    unfold rI
    by_cases h1 : wdO byt tsz x = 0
    · simp only [if_pos h1]
    · simp only [if_neg h1]
      by_cases h2 : f_X7_readSentence tsz byt x cn = 0
      · simp only [if_pos h2]; exact w8_Z byt tsz x cn
      · simp only [if_neg h2]; rw [w8_Z]; exact rI_Z n _ _ _ _ _ _ _ _
theorem cpT_RN {i c : Nat} {a1 a2 a3 a4 k f p m k' f' p' m' : Nat → Int32} {st : Nat} (h : RN i c st k f p m k' f' p' m') : RN i c st (cpT a1 k c) (cpT a2 f c) (cpT a3 p c) (cpT a4 m c) k' f' p' m' := by
  have e : ∀ (a b : Nat → Int32) j, j < c → cpT a b c j = b j := fun a b j hj => by simp [cpT, hj]
  exact ⟨h.1, h.2.1, fun j hj => (e _ _ j hj).trans (h.2.2.1 j hj), fun j hj => (e _ _ j hj).trans (h.2.2.2.1 j hj), fun j hj => (e _ _ j hj).trans (h.2.2.2.2.1 j hj), fun j hj => (e _ _ j hj).trans (h.2.2.2.2.2.1 j hj), fun j hj => by rw [e _ _ j hj]; exact h.2.2.2.2.2.2.1 j hj, fun j hj => by rw [e _ _ j hj]; exact h.2.2.2.2.2.2.2.1 j hj, fun j hj => by rw [e _ _ j hj]; exact h.2.2.2.2.2.2.2.2 j hj⟩
/-- the model's row behind tunnel, by the class's answer -/
def tuI (byt : Nat → Int32) (tsz : Nat) : Prop := (rI0 byt tsz (fun _ => 0) (fun _ => 0) (fun _ => 0) (fun _ => 0)).1 < 0
theorem q_tunnel {byt xk xf xp xm : Nat → Int32} {tsz i : Nat} : (rI0 byt tsz xk xf xp xm).1 = (rI0 byt tsz (fun _ => 0) (fun _ => 0) (fun _ => 0) (fun _ => 0)).1 ∧ (rI0 byt tsz xk xf xp xm).2.2.1 = (rI0 byt tsz (fun _ => 0) (fun _ => 0) (fun _ => 0) (fun _ => 0)).2.2.1 ∧ (rI0 byt tsz xk xf xp xm).2.2.2.1 = (rI0 byt tsz (fun _ => 0) (fun _ => 0) (fun _ => 0) (fun _ => 0)).2.2.2.1 ∧ (rI0 byt tsz xk xf xp xm).2.2.2.2.1 = (rI0 byt tsz (fun _ => 0) (fun _ => 0) (fun _ => 0) (fun _ => 0)).2.2.2.2.1 ∧ (rI0 byt tsz xk xf xp xm).2.2.2.2.2.1 = (rI0 byt tsz (fun _ => 0) (fun _ => 0) (fun _ => 0) (fun _ => 0)).2.2.2.2.2.1 ∧
    RN i (rI0 byt tsz xk xf xp xm).2.2.1 0 (rI0 byt tsz xk xf xp xm).2.2.2.2.2.2.1 (rI0 byt tsz xk xf xp xm).2.2.2.2.2.2.2.1 (rI0 byt tsz xk xf xp xm).2.2.2.2.2.2.2.2.1 (rI0 byt tsz xk xf xp xm).2.2.2.2.2.2.2.2.2 (rI0 byt tsz (fun _ => 0) (fun _ => 0) (fun _ => 0) (fun _ => 0)).2.2.2.2.2.2.1 (rI0 byt tsz (fun _ => 0) (fun _ => 0) (fun _ => 0) (fun _ => 0)).2.2.2.2.2.2.2.1 (rI0 byt tsz (fun _ => 0) (fun _ => 0) (fun _ => 0) (fun _ => 0)).2.2.2.2.2.2.2.2.1 (fun _ => 0) := by
  have h := rI_RN (byt := byt) (tsz := tsz) (i := i) 200 0 0 tq_first (fun _ => 2) (fun _ => 4) xk xf xp xm (fun _ => 0) (fun _ => 0) (fun _ => 0) (fun _ => 0) ⟨Nat.zero_le _, Nat.zero_le _, fun j hj => absurd hj (by omega), fun j hj => absurd hj (by omega), fun j hj => absurd hj (by omega), fun j hj => absurd hj (by omega), fun j hj => absurd hj (by omega), fun j hj => absurd hj (by omega), fun j hj => absurd hj (by omega)⟩
  rw [rI_Z] at h
  exact h
