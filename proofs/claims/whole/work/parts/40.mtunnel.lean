theorem mR_lfa {stp cnt : Nat} {z : Int32} {la lb fo fp ar as_ kinds faiths places moved : Nat → Int32} (h1 : ∀ j, j < 4 → la j = lb j) (h2 : ∀ j, j < 6 → fo j = fp j) (h3 : ∀ j, j < 6 → ar j = as_ j) : mR stp la z cnt fo ar kinds faiths places moved = mR stp lb z cnt fp as_ kinds faiths places moved := by
  funext j
  refine mR_all (P := fun j => mR stp la z cnt fo ar kinds faiths places moved j = mR stp lb z cnt fp as_ kinds faiths places moved j) rfl ?_ rfl rfl ?_ ?_ ?_ ?_ ?_ ?_ j
  · intro x hx; rw [mR_law hx, mR_law hx, h1 x hx]
  · intro x hx; rw [mR_fog hx, mR_fog hx, h2 x hx]
  · intro x hx; rw [mR_arm hx, mR_arm hx, h3 x hx]
  · intro x; rw [mR_kd, mR_kd]
  · intro x; rw [mR_fa, mR_fa]
  · intro x; rw [mR_pl, mR_pl]
  · intro x; rw [mR_mo, mR_mo]
theorem mR_zero : (fun _ => 0 : Nat → Int32) = mR 0 (fun _ => 0) 0 0 (fun _ => 0) (fun _ => 0) (fun _ => 0) (fun _ => 0) (fun _ => 0) (fun _ => 0) := by
  funext j
  refine mR_all (P := fun j => (0 : Int32) = mR 0 (fun _ => 0) 0 0 (fun _ => 0) (fun _ => 0) (fun _ => 0) (fun _ => 0) (fun _ => 0) (fun _ => 0) j) rfl ?_ rfl rfl ?_ ?_ ?_ ?_ ?_ ?_ j
  · intro x hx; rw [mR_law hx]
  · intro x hx; rw [mR_fog hx]
  · intro x hx; rw [mR_arm hx]
  · intro x; rw [mR_kd]
  · intro x; rw [mR_fa]
  · intro x; rw [mR_pl]
  · intro x; rw [mR_mo]
theorem rg_ge {tsz : Nat} (byt : Nat → Int32) {x0 : Nat} (cnt : Nat) (htz : tsz ≤ 200) (hx0 : x0 ≤ tsz) : x0 ≤ f_X7_readGoer_x tsz byt x0 cnt := by
  have g0 := wdS_b byt htz hx0
  have h1 := wdE_b byt htz hx0
  have g1 := wdS_b byt htz h1.2
  have h2 := wdE_b byt htz h1.2
  have g2 := wdS_b byt htz h2.2
  have h3 := wdE_b byt htz h2.2
  have g3 := wdS_b byt htz h3.2
  have h4 := wdE_b byt htz h3.2
  have g4 := wdS_b byt htz h4.2
  have h5 := wdE_b byt htz h4.2
  unfold f_X7_readGoer_x
  repeat' split
  all_goals omega
theorem ro_ge {tsz : Nat} (byt : Nat → Int32) {x0 : Nat} (htz : tsz ≤ 200) (hx0 : x0 ≤ tsz) : x0 ≤ f_X7_readRoster_x tsz byt x0 := by
  have g0 := wdS_b byt htz hx0
  have h1 := wdE_b byt htz hx0
  have g1 := wdS_b byt htz h1.2
  have h2 := wdE_b byt htz h1.2
  have g2 := wdS_b byt htz h2.2
  have h3 := wdE_b byt htz h2.2
  have g3 := wdS_b byt htz h3.2
  have h4 := wdE_b byt htz h3.2
  have g4 := wdS_b byt htz h4.2
  have h5 := wdE_b byt htz h4.2
  unfold f_X7_readRoster_x
  repeat' split
  all_goals omega
theorem lw_ge {tsz : Nat} (byt : Nat → Int32) {x0 : Nat} (lw : Nat) (htz : tsz ≤ 200) (hx0 : x0 ≤ tsz) : x0 ≤ f_X7_readLaw_x tsz byt x0 lw := by
  have g0 := wdS_b byt htz hx0
  have h1 := wdE_b byt htz hx0
  have g1 := wdS_b byt htz h1.2
  have h2 := wdE_b byt htz h1.2
  have g2 := wdS_b byt htz h2.2
  have h3 := wdE_b byt htz h2.2
  have g3 := wdS_b byt htz h3.2
  have h4 := wdE_b byt htz h3.2
  have g4 := wdS_b byt htz h4.2
  have h5 := wdE_b byt htz h4.2
  unfold f_X7_readLaw_x
  repeat' split
  all_goals omega
theorem rs_ge {tsz : Nat} (byt : Nat → Int32) {x0 : Nat} (cnt : Nat) (htz : tsz ≤ 200) (hx0 : x0 ≤ tsz) : x0 ≤ f_X7_readSentence_x tsz byt x0 cnt := by
  unfold f_X7_readSentence_x
  split
  · split
    · split
      · split
        · exact Nat.le_refl _
        · exact lw_ge byt _ htz hx0
      · exact ro_ge byt htz hx0
    · exact ro_ge byt htz hx0
  · exact rg_ge byt _ htz hx0
theorem r3_ne {a b : Int32} (h : ¬ (if a = 0 then (0 : Int32) else if b = 0 then 0 else 1) = 0) : ¬ a = 0 ∧ ¬ b = 0 := by
  by_cases ha : a = 0
  · rw [if_pos ha] at h; exact absurd rfl h
  · by_cases hb : b = 0
    · rw [if_neg ha, if_pos hb] at h; exact absurd rfl h
    · exact ⟨ha, hb⟩
theorem rs_3 {byt : Nat → Int32} {tsz x cn : Nat} (h : ¬ f_X7_readSentence tsz byt x cn = 0) : wdO byt tsz (f_X7_readSentence_x tsz byt x cn) = 3 := by
  have Zf : Nat → Int32 := fun _ => 0
  by_cases hk : f_X7_kindNamed (wdO byt tsz x) (wdS byt tsz x) (wdE byt tsz x) byt < 0
  · by_cases h6 : nmR byt (wdO byt tsz x) (wdS byt tsz x) (wdE byt tsz x) 6 = 0
    · by_cases h7 : nmR byt (wdO byt tsz x) (wdS byt tsz x) (wdE byt tsz x) 7 = 0
      · rcases lwN_v (wdO byt tsz x) (wdS byt tsz x) (wdE byt tsz x) byt with e | e | e | e | e
        · exact absurd (rsN (cn := cn) hk h6 h7 (by rw [e]; decide)).1 h
        · have hR := rsL0 (cn := cn) (la := Zf) (fo := Zf) (ar := Zf) (ki := Zf) (fs := Zf) (ps := Zf) hk h6 h7 e
          rw [hR.1] at h; rw [hR.2.1]; exact (hR.2.2 (r3_ne h).1 (r3_ne h).2).2
        · have hR := rsL1 (cn := cn) (la := Zf) (fo := Zf) (ar := Zf) (ki := Zf) (fs := Zf) (ps := Zf) hk h6 h7 e
          rw [hR.1] at h; rw [hR.2.1]; exact (hR.2.2 (r3_ne h).1 (r3_ne h).2).2
        · have hR := rsL2 (cn := cn) (la := Zf) (fo := Zf) (ar := Zf) (ki := Zf) (fs := Zf) (ps := Zf) hk h6 h7 e
          rw [hR.1] at h; rw [hR.2.1]; exact (hR.2.2 (r3_ne h).1 (r3_ne h).2).2
        · have hR := rsL3 (cn := cn) (la := Zf) (fo := Zf) (ar := Zf) (ki := Zf) (fs := Zf) (ps := Zf) hk h6 h7 e
          rw [hR.1] at h; rw [hR.2.1]; exact (hR.2.2 (r3_ne h).1 (r3_ne h).2).2
      · have hR := rsR (cn := cn) (la := Zf) (fo := Zf) (ar := Zf) (ki := Zf) (fs := Zf) (ps := Zf) hk h6 h7
        rw [hR.1] at h; rw [hR.2.1]; exact (hR.2.2 (r3_ne h).1 (r3_ne h).2).2
    · have hR := rsF (cn := cn) (la := Zf) (fo := Zf) (ar := Zf) (ki := Zf) (fs := Zf) (ps := Zf) hk h6
      rw [hR.1] at h; rw [hR.2.1]; exact (hR.2.2 (r3_ne h).1 (r3_ne h).2).2
  · have hR := rsG (cn := cn) (la := Zf) (fo := Zf) (ar := Zf) (ki := Zf) (fs := Zf) (ps := Zf) hk
    rw [hR.1] at h; rw [hR.2.1]; exact (hR.2.2 (r3_ne h).1 (r3_ne h).2).2
theorem wd3_lt {byt : Nat → Int32} {tsz x : Nat} (htz : tsz ≤ 200) (hx : x ≤ tsz) (h : wdO byt tsz x = 3) : x < wdE byt tsz x ∧ wdE byt tsz x ≤ tsz := by
  have hS := wdS_b byt htz hx
  have hE := wdE_b byt htz hx
  refine ⟨?_, hE.2⟩
  unfold wdO at h
  by_cases q : nI (wdS byt tsz x) < nI tsz
  · rw [if_pos q] at h
    have : wdE byt tsz x = wdS byt tsz x + 1 := (if_pos q).trans (if_pos h)
    omega
  · rw [if_neg q] at h; exact absurd h (by decide)
theorem rs_prog {byt : Nat → Int32} {tsz x cn : Nat} (htz : tsz ≤ 200) (hx : x ≤ tsz) (h : ¬ f_X7_readSentence tsz byt x cn = 0) : x < rsX byt tsz x cn ∧ rsX byt tsz x cn ≤ tsz := by
  have h1 := rs_ge byt cn htz hx
  have h2 := wd3_lt htz (rs_x byt cn htz hx) (rs_3 h)
  unfold rsX
  rw [if_neg h]
  exact ⟨by omega, h2.2⟩
theorem rsX_le {byt : Nat → Int32} {tsz x cn : Nat} (htz : tsz ≤ 200) (hx : x ≤ tsz) : rsX byt tsz x cn ≤ tsz := by
  unfold rsX
  split
  · exact rs_x byt cn htz hx
  · exact (wdE_b byt htz (rs_x byt cn htz hx)).2
theorem wd_lt {byt : Nat → Int32} {tsz x : Nat} (htz : tsz ≤ 200) (hx : x ≤ tsz) (h : ¬ wdO byt tsz x = 0) : x < tsz := by
  have hS := wdS_b byt htz hx
  rcases Nat.lt_or_ge (wdS byt tsz x) tsz with q | q
  · omega
  · exact absurd (if_neg (nI_nlt q (by omega))) h
theorem w8_Z (byt : Nat → Int32) (tsz x cn : Nat) : f_X7_readSentence_w8 tsz byt x (fun _ => 0) cn = (fun _ => 0) := by
  have hu : upd (fun _ => 0) cn 0 = (fun _ => 0) := by
    funext j
    by_cases h : j = cn
    · rw [h, pk_us]
    · rw [pk_un h]
  have h5 : f_X7_readGoer_w5 tsz byt x (fun _ => 0) cn = (fun _ => 0) := by
    unfold f_X7_readGoer_w5
    rw [hu]
    repeat' split
    all_goals rfl
  unfold f_X7_readSentence_w8
  rw [h5]
  split <;> rfl
abbrev rmX11_begins : Room := { frames := 0, cells := 0, slots := 0, locals := 0 }
set_option maxHeartbeats 4000000 in
set_option maxRecDepth 100000 in
theorem c_X11_begins (l : Launch) (g : GG) (af : Nat) (fa : Nat → Int32) : mt l g yX11_begins wsX11_begins rmX11_begins [.ref af] [cin g af 51 fa] none [cin g af 51 (mR 0 tq_first 0 0 (fun _ => 2) (fun _ => 4) (fun _ => 0) (fun _ => 0) (fun _ => 0) (fun _ => 0))] := by
  refine mt.of (cc := cX11_begins) (nL := 2) (ret := none) (own := RX11) (by decide +kernel) rfl rfl (show ([af] : List Nat) = [af] from rfl) (Nat.le_of_ble_eq_true rfl) (fun p e s m below meth c hf hr hlk _ hk hst hw ls hl => ?_)
  have hx := hf.1
  have hb := hf.2.1
  have hts := hf.2.2.2.2
  have hl : lv_has ls 2 [(0, .ref af)] := hl
  refine lv_iconst (v := 0) hx hb dX11_begins_0 (by decide) ?_
  refine lv_istore_n (lv' := [(1, .int 0), (0, .ref af)]) hx hb dX11_begins_1 rfl hl (by decide) rfl (fun ls hl => ?_)
  have lp_2_0 : ∀ (fu k : Nat) (v1 : Nat → Int32), k ≤ 51 → 51 + 1 ≤ k + fu → (v1 = fill fa 0 k) → ∀ (H : Heap) (locs : List Loc), hv g (va_I [cin g af 51 fa]) s H locs [cin g af 51 v1] → ∀ ls : Array Slot, lv_has ls 2 [(1, .int (nI k)), (0, .ref af)] → W p l e rmX11_begins s m ([.ref af] : List Value).toArray below meth c H locs 0 0 (MQ below (mtQ g [cin g af 51 fa] none [cin g af 51 (mR 0 tq_first 0 0 (fun _ => 2) (fun _ => 4) (fun _ => 0) (fun _ => 0) (fun _ => 0) (fun _ => 0))]) ([.ref af] : List Value).toArray s 0 0 (va_I [cin g af 51 fa])) (F0 m 2 ls []) := by
    intro fu
    induction fu with
    | zero =>
      intro k v1 h1 h2
      exact absurd h2 (by omega)
    | succ fu ih_2 =>
      intro k v1 hk1_2 hk2_2 e1 H locs hw ls hl
      refine lv_iload_n hx hb dX11_begins_2 rfl (lv_at hl 0 rfl) ?_
      refine lv_bipush (v := 51) hx hb dX11_begins_3 (by decide) ?_
      refine lv_icmp_ge (tgt := 18) hx hb dX11_begins_5 (by decide) (fun c_2 => ?_) (fun c_2 => ?_)
      · have hkE : k = 51 := Nat.le_antisymm hk1_2 ((nI_leI (a := 51) (by omega) (by omega)).mp c_2)
        rw [hkE] at e1
        have hw := hv_ext hw 0 (f' := (fun _ => 0)) rfl (by rw [e1]; intro j hj; simp [fill, hj]) (W' := [cin g af 51 (fun _ => 0)]) rfl
        rw [mR_zero] at hw
        refine lv_aload_n hx hb dX11_begins_18 rfl (lv_at hl 1 rfl) ?_
        refine lv_iconst (v := 1) hx hb dX11_begins_19 (by decide) ?_
        refine lv_iconst (v := 3) hx hb dX11_begins_20 (by decide) ?_
        refine rse hf hk hw 0 rfl (j := 1) (vp_in_nI (n := 1) (by omega) (by omega)) (rfl) (mU_law (r := 0) (by omega)) dX11_begins_21 (W' := [cin g af 51 (mR 0 (upd (fun _ => 0) 0 3) 0 0 (fun _ => 0) (fun _ => 0) (fun _ => 0) (fun _ => 0) (fun _ => 0) (fun _ => 0))]) rfl (fun H locs hw => ?_)
        refine lv_aload_n hx hb dX11_begins_22 rfl (lv_at hl 1 rfl) ?_
        refine lv_iconst (v := 2) hx hb dX11_begins_23 (by decide) ?_
        refine lv_bipush (v := 10) hx hb dX11_begins_24 (by decide) ?_
        refine rse hf hk hw 0 rfl (j := 2) (vp_in_nI (n := 2) (by omega) (by omega)) (rfl) (mU_law (r := 1) (by omega)) dX11_begins_26 (W' := [cin g af 51 (mR 0 (upd (upd (fun _ => 0) 0 3) 1 10) 0 0 (fun _ => 0) (fun _ => 0) (fun _ => 0) (fun _ => 0) (fun _ => 0) (fun _ => 0))]) rfl (fun H locs hw => ?_)
        refine lv_aload_n hx hb dX11_begins_27 rfl (lv_at hl 1 rfl) ?_
        refine lv_iconst (v := 3) hx hb dX11_begins_28 (by decide) ?_
        refine lv_bipush (v := 90) hx hb dX11_begins_29 (by decide) ?_
        refine rse hf hk hw 0 rfl (j := 3) (vp_in_nI (n := 3) (by omega) (by omega)) (rfl) (mU_law (r := 2) (by omega)) dX11_begins_31 (W' := [cin g af 51 (mR 0 (upd (upd (upd (fun _ => 0) 0 3) 1 10) 2 90) 0 0 (fun _ => 0) (fun _ => 0) (fun _ => 0) (fun _ => 0) (fun _ => 0) (fun _ => 0))]) rfl (fun H locs hw => ?_)
        refine lv_aload_n hx hb dX11_begins_32 rfl (lv_at hl 1 rfl) ?_
        refine lv_iconst (v := 4) hx hb dX11_begins_33 (by decide) ?_
        refine lv_bipush (v := 20) hx hb dX11_begins_34 (by decide) ?_
        refine rse hf hk hw 0 rfl (j := 4) (vp_in_nI (n := 4) (by omega) (by omega)) (rfl) (mU_law (r := 3) (by omega)) dX11_begins_36 (W' := [cin g af 51 (mR 0 (upd (upd (upd (upd (fun _ => 0) 0 3) 1 10) 2 90) 3 20) 0 0 (fun _ => 0) (fun _ => 0) (fun _ => 0) (fun _ => 0) (fun _ => 0) (fun _ => 0))]) rfl (fun H locs hw => ?_)
        refine lv_iconst (v := 0) hx hb dX11_begins_37 (by decide) ?_
        refine lv_istore_n (lv' := [(1, .int 0), (0, .ref af)]) hx hb dX11_begins_38 rfl hl (by decide) rfl (fun ls hl => ?_)
        have lp_39_2 : ∀ (fu j : Nat) (v2 : Nat → Int32) (v3 : Nat → Int32), j ≤ 6 → 6 + 1 ≤ j + fu → (v2 = fill (fun _ => 0) 2 j) → (v3 = fill (fun _ => 0) 4 j) → ∀ (H : Heap) (locs : List Loc), hv g (va_I [cin g af 51 fa]) s H locs [cin g af 51 (mR 0 (upd (upd (upd (upd (fun _ => 0) 0 3) 1 10) 2 90) 3 20) 0 0 v2 v3 (fun _ => 0) (fun _ => 0) (fun _ => 0) (fun _ => 0))] → ∀ ls : Array Slot, lv_has ls 2 [(1, .int (nI j)), (0, .ref af)] → W p l e rmX11_begins s m ([.ref af] : List Value).toArray below meth c H locs 0 0 (MQ below (mtQ g [cin g af 51 fa] none [cin g af 51 (mR 0 tq_first 0 0 (fun _ => 2) (fun _ => 4) (fun _ => 0) (fun _ => 0) (fun _ => 0) (fun _ => 0))]) ([.ref af] : List Value).toArray s 0 0 (va_I [cin g af 51 fa])) (F0 m 39 ls []) := by
          intro fu
          induction fu with
          | zero =>
            intro j v2 v3 h1 h2
            exact absurd h2 (by omega)
          | succ fu ih_39 =>
            intro j v2 v3 hk1_39 hk2_39 e2 e3 H locs hw ls hl
            refine lv_iload_n hx hb dX11_begins_39 rfl (lv_at hl 0 rfl) ?_
            refine lv_bipush (v := 6) hx hb dX11_begins_40 (by decide) ?_
            refine lv_icmp_ge (tgt := 65) hx hb dX11_begins_42 (by decide) (fun c_4 => ?_) (fun c_4 => ?_)
            · have hjE : j = 6 := Nat.le_antisymm hk1_39 ((nI_leI (a := 6) (by omega) (by omega)).mp c_4)
              have eL : mR 0 (upd (upd (upd (upd (fun _ => 0) 0 3) 1 10) 2 90) 3 20) 0 0 v2 v3 (fun _ => 0) (fun _ => 0) (fun _ => 0) (fun _ => 0) = mR 0 tq_first 0 0 (fun _ => 2) (fun _ => 4) (fun _ => 0) (fun _ => 0) (fun _ => 0) (fun _ => 0) := mR_lfa (fun j hj => by rcases (show j = 0 ∨ j = 1 ∨ j = 2 ∨ j = 3 by omega) with rfl | rfl | rfl | rfl <;> rfl) (fun j hj => by rw [e2, hjE]; simp [fill, hj]) (fun j hj => by rw [e3, hjE]; simp [fill, hj])
              exact re_v hf hr hlk hw (by rw [eL]) dX11_begins_65
            · have hjE : j < 6 := Nat.not_le.mp (fun h => c_4 ((nI_leI (a := 6) (by omega) (by omega)).mpr h))
              refine lv_aload_n hx hb dX11_begins_45 rfl (lv_at hl 1 rfl) ?_
              refine lv_bipush (v := 7) hx hb dX11_begins_46 (by decide) ?_
              refine lv_iload_n hx hb dX11_begins_48 rfl (lv_at hl 0 rfl) ?_
              refine lv_iadd hx hb dX11_begins_49 ?_
              refine lv_tope (y := nI (7 + j)) (nI_add 7 _) ?_
              refine lv_iconst (v := 2) hx hb dX11_begins_50 (by decide) ?_
              refine rse hf hk hw 0 rfl (j := 7 + j) (vp_in_nI (by omega) (by omega)) (nI_clamp (by omega)) (mU_fog (r := j) (by omega)) dX11_begins_51 (W' := [cin g af 51 (mR 0 (upd (upd (upd (upd (fun _ => 0) 0 3) 1 10) 2 90) 3 20) 0 0 (upd v2 j 2) v3 (fun _ => 0) (fun _ => 0) (fun _ => 0) (fun _ => 0))]) rfl (fun H locs hw => ?_)
              refine lv_aload_n hx hb dX11_begins_52 rfl (lv_at hl 1 rfl) ?_
              refine lv_bipush (v := 13) hx hb dX11_begins_53 (by decide) ?_
              refine lv_iload_n hx hb dX11_begins_55 rfl (lv_at hl 0 rfl) ?_
              refine lv_iadd hx hb dX11_begins_56 ?_
              refine lv_tope (y := nI (13 + j)) (nI_add 13 _) ?_
              refine lv_iconst (v := 4) hx hb dX11_begins_57 (by decide) ?_
              refine rse hf hk hw 0 rfl (j := 13 + j) (vp_in_nI (by omega) (by omega)) (nI_clamp (by omega)) (mU_arm (r := j) (by omega)) dX11_begins_58 (W' := [cin g af 51 (mR 0 (upd (upd (upd (upd (fun _ => 0) 0 3) 1 10) 2 90) 3 20) 0 0 (upd v2 j 2) (upd v3 j 4) (fun _ => 0) (fun _ => 0) (fun _ => 0) (fun _ => 0))]) rfl (fun H locs hw => ?_)
              refine lv_iinc (v := nI (j + 1)) (lv' := [(1, .int (nI (j + 1))), (0, .ref af)]) hx hb dX11_begins_59 hl (k := 0) rfl (nI_1 _) (by decide) rfl (fun ls hl => ?_)
              refine lv_goto (tgt := 39) hx hb dX11_begins_62 (by decide) ?_
              exact ih_39 (j + 1) (upd v2 j 2) (upd v3 j 4) (by omega) (by omega) (fill_s e2) (fill_s e3) _ _ hw _ (lv_sub hl [0, 1] rfl)
        exact lp_39_2 (6 + 1) 0 (fun _ => 0) (fun _ => 0) (by omega) (by omega) (fill_0 _ _) (fill_0 _ _) _ _ hw _ (lv_sub hl [0, 1] rfl)
      · have hkE : k < 51 := Nat.not_le.mp (fun h => c_2 ((nI_leI (a := 51) (by omega) (by omega)).mpr h))
        refine lv_aload_n hx hb dX11_begins_8 rfl (lv_at hl 1 rfl) ?_
        refine lv_iload_n hx hb dX11_begins_9 rfl (lv_at hl 0 rfl) ?_
        refine lv_iconst (v := 0) hx hb dX11_begins_10 (by decide) ?_
        refine rsj hf hk hw 0 rfl (j := k) (vp_in_nI (by omega) (by omega)) (nI_clamp (by omega)) dX11_begins_11 (W' := [cin g af 51 (upd v1 k 0)]) rfl (fun H locs hw => ?_)
        refine lv_iinc (v := nI (k + 1)) (lv' := [(1, .int (nI (k + 1))), (0, .ref af)]) hx hb dX11_begins_12 hl (k := 0) rfl (nI_1 _) (by decide) rfl (fun ls hl => ?_)
        refine lv_goto (tgt := 2) hx hb dX11_begins_15 (by decide) ?_
        exact ih_2 (k + 1) (upd v1 k 0) (by omega) (by omega) (fill_s e1) _ _ hw _ (lv_sub hl [0, 1] rfl)
  exact lp_2_0 (51 + 1) 0 fa (by omega) (by omega) (fill_0 _ _) _ _ hw _ (lv_sub hl [0, 1] rfl)
theorem rs_one {byt : Nat → Int32} {tsz x cn : Nat} (h : ¬ f_X7_readSentence tsz byt x cn = 0) : f_X7_readSentence tsz byt x cn = 1 := by
  have h01 : f_X7_readSentence tsz byt x cn = 0 ∨ f_X7_readSentence tsz byt x cn = 1 := by
    unfold f_X7_readSentence
    split
    · split
      · split
        · split
          · exact Or.inl rfl
          · split
            · exact Or.inl rfl
            · exact Or.inr rfl
        · unfold f_X7_readRoster
          split
          · split
            · exact Or.inl rfl
            · split
              · exact semi_01 _ _ _
              · exact Or.inl rfl
          · exact Or.inl rfl
      · unfold f_X7_readRoster
        split
        · split
          · exact Or.inl rfl
          · split
            · exact semi_01 _ _ _
            · exact Or.inl rfl
        · exact Or.inl rfl
    · rw [(rgW (ki := fun _ => 0) (fs := fun _ => 0) (ps := fun _ => 0) (kd := 0)).1]
      split
      · exact Or.inl rfl
      · split
        · exact Or.inl rfl
        · exact Or.inr rfl
  exact h01.resolve_left h
theorem hdS_X11_begins : yX11_begins.cls ≠ "java/lang/invoke/MethodHandle" ∧ yX11_begins.cls ≠ "java/lang/invoke/VarHandle" ∧ (parseMethodDescriptor yX11_begins.desc).map (fun d => d.parameters.length) = some 1 := by decide +kernel
theorem hdV_X11_readsOne : yX11_readsOne.cls = RX11 ∧ yX11_readsOne.cls ≠ "java/lang/invoke/MethodHandle" ∧ yX11_readsOne.cls ≠ "java/lang/invoke/VarHandle" ∧ (parseMethodDescriptor yX11_readsOne.desc).map (fun d => d.parameters.length) = some 0 := by decide +kernel
abbrev rmX11_tunnel : Room := { frames := 7, cells := 0, slots := 0, locals := 153 }
set_option maxHeartbeats 4000000 in
set_option maxRecDepth 100000 in
theorem c_X11_tunnel (l : Launch) (g : GG) (oh : Nat) (os : Nat) (ok : Nat) (ol : Nat) (ord : Nat) (odd : Nat) (otp : Nat) (olt : Nat) (orw : Nat) (oso : Nat) (osz : Nat) (oit : Nat) (oho : Nat) (ohe : Nat) (otr : Nat) (stp : Nat) (laws : Nat → Int32) (z : Int32) (cnt : Nat) (fogs : Nat → Int32) (arms : Nat → Int32) (kinds : Nat → Int32) (faiths : Nat → Int32) (places : Nat → Int32) (moved : Nat → Int32) (isk : Int32) (tpd : Nat) (oat : Int32) (obg : Int32) (otk : Int32) (ovl : Int32) (rmn : Nat) (tcd : Nat) (own_ : Int32) (opt : Int32) (rr : Nat → Int32) (byt : Nat → Int32) (htz : tpd ≤ 200) (hby : ∀ j, isB (byt j)) : mtR l g yX11_tunnel wsX11_tunnel rmX11_tunnel [.ref oh] [cob oh 11 [.ref os, .ref ok, .ref ol, .ref ord, .int isk, .ref odd, .ref otp, .int (nI tpd), .ref olt, .int oat, .int obg, .int otk, .int ovl, .ref orw, .int (nI rmn), .ref oso, .ref osz, .ref oit, .ref oho, .ref ohe, .ref otr, .int (nI tcd), .int own_, .int opt], cin g os 51 (mR stp laws z cnt fogs arms kinds faiths places moved), cin g ord 51 rr, cin g otp 200 (ubT byt), cch g olt 120 mlet] (fun rv W => rv = (some (.int (f_X10_tunnel (fun _ => 0) (fun _ => 0) (fun _ => 0) (fun _ => 0) tpd byt))) ∧ ∃ (j0 : Int32) (j1 : Int32) (j2 : Int32) (j3 : Int32) (j4 : Nat → Int32), W = [cob oh 11 [.ref os, .ref ok, .ref ol, .ref ord, .int isk, .ref odd, .ref otp, .int 0, .ref olt, .int j0, .int j1, .int j2, .int j3, .ref orw, .int (nI (if (rI0 byt tpd (fun _ => 0) (fun _ => 0) (fun _ => 0) (fun _ => 0)).1 < 0 then 0 else rmn)), .ref oso, .ref osz, .ref oit, .ref oho, .ref ohe, .ref otr, .int (nI tcd), .int own_, .int opt], cin g os 51 (mR (if (rI0 byt tpd (fun _ => 0) (fun _ => 0) (fun _ => 0) (fun _ => 0)).1 < 0 then 0 else stp) (if (rI0 byt tpd (fun _ => 0) (fun _ => 0) (fun _ => 0) (fun _ => 0)).1 < 0 then (rI0 byt tpd (fun _ => 0) (fun _ => 0) (fun _ => 0) (fun _ => 0)).2.2.2.1 else laws) z (if (rI0 byt tpd (fun _ => 0) (fun _ => 0) (fun _ => 0) (fun _ => 0)).1 < 0 then (rI0 byt tpd (fun _ => 0) (fun _ => 0) (fun _ => 0) (fun _ => 0)).2.2.1 else cnt) (if (rI0 byt tpd (fun _ => 0) (fun _ => 0) (fun _ => 0) (fun _ => 0)).1 < 0 then (rI0 byt tpd (fun _ => 0) (fun _ => 0) (fun _ => 0) (fun _ => 0)).2.2.2.2.1 else fogs) (if (rI0 byt tpd (fun _ => 0) (fun _ => 0) (fun _ => 0) (fun _ => 0)).1 < 0 then (rI0 byt tpd (fun _ => 0) (fun _ => 0) (fun _ => 0) (fun _ => 0)).2.2.2.2.2.1 else arms) (if (rI0 byt tpd (fun _ => 0) (fun _ => 0) (fun _ => 0) (fun _ => 0)).1 < 0 then (rI0 byt tpd (fun _ => 0) (fun _ => 0) (fun _ => 0) (fun _ => 0)).2.2.2.2.2.2.1 else kinds) (if (rI0 byt tpd (fun _ => 0) (fun _ => 0) (fun _ => 0) (fun _ => 0)).1 < 0 then (rI0 byt tpd (fun _ => 0) (fun _ => 0) (fun _ => 0) (fun _ => 0)).2.2.2.2.2.2.2.1 else faiths) (if (rI0 byt tpd (fun _ => 0) (fun _ => 0) (fun _ => 0) (fun _ => 0)).1 < 0 then (rI0 byt tpd (fun _ => 0) (fun _ => 0) (fun _ => 0) (fun _ => 0)).2.2.2.2.2.2.2.2.1 else places) (if (rI0 byt tpd (fun _ => 0) (fun _ => 0) (fun _ => 0) (fun _ => 0)).1 < 0 then (fun _ => 0) else moved)), cin g ord 51 j4, cin g otp 200 (ubT byt), cch g olt 120 mlet]) := by
  refine mtR.of (cc := cX11_tunnel) (nL := 2) (ret := (some .int)) (own := RX11) (by decide +kernel) rfl rfl (Nat.le_of_ble_eq_true rfl) (fun p e s m below meth c hf hr hlk _ hk hst hw ls hl => ?_)
  have hx := hf.1
  have hb := hf.2.1
  have hts := hf.2.2.2.2
  have hl : lv_has ls 2 [(0, .ref oh)] := hl
  have hinX11 : ∀ w ∈ u_ws RX11 TX11 24, w ∈ wsX11_tunnel := fun w h => List.mem_cons_of_mem _ (List.mem_append_right _ h)
  have w_0 : Cond.fieldLink RX11 110 "LightManModel" "at" "I" ∈ wsX11_tunnel := List.mem_of_getElem? (i := 1) rfl
  have w_1 : Cond.fieldLink RX11 19 "LightManModel" "read" "[I" ∈ wsX11_tunnel := List.mem_of_getElem? (i := 2) rfl
  have w_2 : Cond.fieldLink RX11 9 "LightManModel" "s" "[I" ∈ wsX11_tunnel := List.mem_of_getElem? (i := 3) rfl
  have w_3 : Cond.fieldLink RX11 106 "LightManModel" "taped" "I" ∈ wsX11_tunnel := List.mem_of_getElem? (i := 5) rfl
  have w_4 : Cond.fieldLink RX11 113 "LightManModel" "begun" "I" ∈ wsX11_tunnel := List.mem_of_getElem? (i := 6) rfl
  have w_5 : Cond.fieldLink RX11 119 "LightManModel" "token" "I" ∈ wsX11_tunnel := List.mem_of_getElem? (i := 4) rfl
  have w_6 : Cond.fieldLink RX11 162 "LightManModel" "rowMany" "I" ∈ wsX11_tunnel := List.mem_of_getElem? (i := 7) rfl
  refine lv_aload_n hx hb dX11_tunnel_0 rfl (lv_at hl 0 rfl) ?_
  refine lv_iconst (v := 0) hx hb dX11_tunnel_1 (by decide) ?_
  refine rp hf hk hw hinX11 tyX11 tyX11_ok nmX11 0 rfl rfl 9 (by decide) w_0 rfl (rfl) rfl (Nat.le_of_ble_eq_true rfl) dX11_tunnel_2 (W' := [cob oh 11 [.ref os, .ref ok, .ref ol, .ref ord, .int isk, .ref odd, .ref otp, .int (nI tpd), .ref olt, .int 0, .int obg, .int otk, .int ovl, .ref orw, .int (nI rmn), .ref oso, .ref osz, .ref oit, .ref oho, .ref ohe, .ref otr, .int (nI tcd), .int own_, .int opt], cin g os 51 (mR stp laws z cnt fogs arms kinds faiths places moved), cin g ord 51 rr, cin g otp 200 (ubT byt), cch g olt 120 mlet]) rfl (fun H locs hw => ?_)
  refine lv_aload_n hx hb dX11_tunnel_5 rfl (lv_at hl 0 rfl) ?_
  refine rg hf hk hw hinX11 0 rfl rfl 3 (by decide) w_1 rfl dX11_tunnel_6 ?_
  refine mcS hf hk hst hw (c_X11_begins l g ord rr) (va_cwS 1 hts gX11_tunnel_X11_begins rfl rfl rfl hdS_X11_begins ⟨Nat.le_of_ble_eq_true rfl, Nat.le_of_ble_eq_true rfl⟩) [2] rfl rfl rfl hl.1 rfl (Nat.le_of_ble_eq_true rfl) dX11_tunnel_9 ⟨Nat.zero_le _, Nat.zero_le _⟩ (W' := [cob oh 11 [.ref os, .ref ok, .ref ol, .ref ord, .int isk, .ref odd, .ref otp, .int (nI tpd), .ref olt, .int 0, .int obg, .int otk, .int ovl, .ref orw, .int (nI rmn), .ref oso, .ref osz, .ref oit, .ref oho, .ref ohe, .ref otr, .int (nI tcd), .int own_, .int opt], cin g os 51 (mR stp laws z cnt fogs arms kinds faiths places moved), cin g ord 51 (mR 0 tq_first 0 0 (fun _ => 2) (fun _ => 4) (fun _ => 0) (fun _ => 0) (fun _ => 0) (fun _ => 0)), cin g otp 200 (ubT byt), cch g olt 120 mlet]) rfl (fun H locs hw => ?_)
  refine lv_aload_n hx hb dX11_tunnel_12 rfl (lv_at hl 0 rfl) ?_
  refine rg hf hk hw hinX11 0 rfl rfl 3 (by decide) w_1 rfl dX11_tunnel_13 ?_
  refine lv_iconst (v := 5) hx hb dX11_tunnel_16 (by decide) ?_
  refine lv_aload_n hx hb dX11_tunnel_17 rfl (lv_at hl 0 rfl) ?_
  refine rg hf hk hw hinX11 0 rfl rfl 0 (by decide) w_2 rfl dX11_tunnel_18 ?_
  refine lv_iconst (v := 5) hx hb dX11_tunnel_21 (by decide) ?_
  refine rij hf hk hw 1 rfl (j := 5) (vp_in_nI (n := 5) (by omega) (by omega)) (rfl) dX11_tunnel_22 ?_
  refine lv_tope (y := z) (rfl) ?_
  refine rse hf hk hw 2 rfl (j := 5) (vp_in_nI (n := 5) (by omega) (by omega)) (rfl) (mU_z) dX11_tunnel_23 (W' := [cob oh 11 [.ref os, .ref ok, .ref ol, .ref ord, .int isk, .ref odd, .ref otp, .int (nI tpd), .ref olt, .int 0, .int obg, .int otk, .int ovl, .ref orw, .int (nI rmn), .ref oso, .ref osz, .ref oit, .ref oho, .ref ohe, .ref otr, .int (nI tcd), .int own_, .int opt], cin g os 51 (mR stp laws z cnt fogs arms kinds faiths places moved), cin g ord 51 (mR 0 tq_first z 0 (fun _ => 2) (fun _ => 4) (fun _ => 0) (fun _ => 0) (fun _ => 0) (fun _ => 0)), cin g otp 200 (ubT byt), cch g olt 120 mlet]) rfl (fun H locs hw => ?_)
  refine lv_aload_n hx hb dX11_tunnel_24 rfl (lv_at hl 0 rfl) ?_
  refine mcVF hf hk hst hw (c_X11_next l g oh os ok ol ord odd otp olt orw oso osz oit oho ohe otr stp laws z cnt fogs arms kinds faiths places moved isk tpd obg otk ovl rmn tcd own_ opt (mR 0 tq_first z 0 (fun _ => 2) (fun _ => 4) (fun _ => 0) (fun _ => 0) (fun _ => 0) (fun _ => 0)) byt 0 (by omega) (by assumption) (by omega)) (cwV 0 hts gX11_tunnel_X11_next rfl rfl rfl hdV_X11_next ⟨Nat.le_of_ble_eq_true rfl, Nat.le_of_ble_eq_true rfl⟩) 0 rfl rfl rfl hl.1 rfl (Nat.le_of_ble_eq_true rfl) dX11_tunnel_25 ⟨Nat.zero_le _, Nat.zero_le _⟩ (fun rv ws2 hPo H locs hw => ?_)
  obtain ⟨rfl, u1_j0, u1_s, rfl⟩ := hPo
  refine lv_iconst (v := 1) hx hb dX11_tunnel_28 (by decide) ?_
  refine lv_istore_n (lv' := [(1, .int 1), (0, .ref oh)]) hx hb dX11_tunnel_29 rfl hl (by decide) rfl (fun ls hl => ?_)
  have lp_30_1 : ∀ (fu k : Nat) (xx : Nat) (cn : Nat) (la : Nat → Int32) (fo : Nat → Int32) (ar : Nat → Int32) (ki : Nat → Int32) (fs : Nat → Int32) (ps : Nat → Int32) (rf : Nat → Int32) (is_ : Int32) (ov : Int32), k ≤ 200 → 200 + 1 ≤ k + fu → ((is_ = 1 ∧ rf = mR 0 la z cn fo ar ki fs ps (fun _ => 0) ∧ (rI0 byt tpd (fun _ => 0) (fun _ => 0) (fun _ => 0) (fun _ => 0)) = rI byt tpd (200 - k) xx cn la fo ar ki fs ps (fun _ => 0) ∧ k ≤ xx) ∨ (is_ = 0 ∧ (rI0 byt tpd (fun _ => 0) (fun _ => 0) (fun _ => 0) (fun _ => 0)).1 = nI (wdS byt tpd xx))) → (xx ≤ tpd) → (cn ≤ 8) → (vOk byt tpd xx ov) → ∀ (H : Heap) (locs : List Loc), hv g (va_I [cob oh 11 [.ref os, .ref ok, .ref ol, .ref ord, .int isk, .ref odd, .ref otp, .int (nI tpd), .ref olt, .int oat, .int obg, .int otk, .int ovl, .ref orw, .int (nI rmn), .ref oso, .ref osz, .ref oit, .ref oho, .ref ohe, .ref otr, .int (nI tcd), .int own_, .int opt], cin g os 51 (mR stp laws z cnt fogs arms kinds faiths places moved), cin g ord 51 rr, cin g otp 200 (ubT byt), cch g olt 120 mlet]) s H locs [cob oh 11 [.ref os, .ref ok, .ref ol, .ref ord, .int isk, .ref odd, .ref otp, .int (nI tpd), .ref olt, .int (nI (wdE byt tpd xx)), .int (nI (wdS byt tpd xx)), .int (tkF byt tpd xx), .int ov, .ref orw, .int (nI rmn), .ref oso, .ref osz, .ref oit, .ref oho, .ref ohe, .ref otr, .int (nI tcd), .int own_, .int opt], cin g os 51 (mR stp laws z cnt fogs arms kinds faiths places moved), cin g ord 51 rf, cin g otp 200 (ubT byt), cch g olt 120 mlet] → ∀ ls : Array Slot, lv_has ls 2 [(1, .int is_), (0, .ref oh)] → W p l e rmX11_tunnel s m ([.ref oh] : List Value).toArray below meth c H locs 0 0 (MQ below (mtS g [cob oh 11 [.ref os, .ref ok, .ref ol, .ref ord, .int isk, .ref odd, .ref otp, .int (nI tpd), .ref olt, .int oat, .int obg, .int otk, .int ovl, .ref orw, .int (nI rmn), .ref oso, .ref osz, .ref oit, .ref oho, .ref ohe, .ref otr, .int (nI tcd), .int own_, .int opt], cin g os 51 (mR stp laws z cnt fogs arms kinds faiths places moved), cin g ord 51 rr, cin g otp 200 (ubT byt), cch g olt 120 mlet] (fun rv W => rv = (some (.int (f_X10_tunnel (fun _ => 0) (fun _ => 0) (fun _ => 0) (fun _ => 0) tpd byt))) ∧ ∃ (j0 : Int32) (j1 : Int32) (j2 : Int32) (j3 : Int32) (j4 : Nat → Int32), W = [cob oh 11 [.ref os, .ref ok, .ref ol, .ref ord, .int isk, .ref odd, .ref otp, .int 0, .ref olt, .int j0, .int j1, .int j2, .int j3, .ref orw, .int (nI (if (rI0 byt tpd (fun _ => 0) (fun _ => 0) (fun _ => 0) (fun _ => 0)).1 < 0 then 0 else rmn)), .ref oso, .ref osz, .ref oit, .ref oho, .ref ohe, .ref otr, .int (nI tcd), .int own_, .int opt], cin g os 51 (mR (if (rI0 byt tpd (fun _ => 0) (fun _ => 0) (fun _ => 0) (fun _ => 0)).1 < 0 then 0 else stp) (if (rI0 byt tpd (fun _ => 0) (fun _ => 0) (fun _ => 0) (fun _ => 0)).1 < 0 then (rI0 byt tpd (fun _ => 0) (fun _ => 0) (fun _ => 0) (fun _ => 0)).2.2.2.1 else laws) z (if (rI0 byt tpd (fun _ => 0) (fun _ => 0) (fun _ => 0) (fun _ => 0)).1 < 0 then (rI0 byt tpd (fun _ => 0) (fun _ => 0) (fun _ => 0) (fun _ => 0)).2.2.1 else cnt) (if (rI0 byt tpd (fun _ => 0) (fun _ => 0) (fun _ => 0) (fun _ => 0)).1 < 0 then (rI0 byt tpd (fun _ => 0) (fun _ => 0) (fun _ => 0) (fun _ => 0)).2.2.2.2.1 else fogs) (if (rI0 byt tpd (fun _ => 0) (fun _ => 0) (fun _ => 0) (fun _ => 0)).1 < 0 then (rI0 byt tpd (fun _ => 0) (fun _ => 0) (fun _ => 0) (fun _ => 0)).2.2.2.2.2.1 else arms) (if (rI0 byt tpd (fun _ => 0) (fun _ => 0) (fun _ => 0) (fun _ => 0)).1 < 0 then (rI0 byt tpd (fun _ => 0) (fun _ => 0) (fun _ => 0) (fun _ => 0)).2.2.2.2.2.2.1 else kinds) (if (rI0 byt tpd (fun _ => 0) (fun _ => 0) (fun _ => 0) (fun _ => 0)).1 < 0 then (rI0 byt tpd (fun _ => 0) (fun _ => 0) (fun _ => 0) (fun _ => 0)).2.2.2.2.2.2.2.1 else faiths) (if (rI0 byt tpd (fun _ => 0) (fun _ => 0) (fun _ => 0) (fun _ => 0)).1 < 0 then (rI0 byt tpd (fun _ => 0) (fun _ => 0) (fun _ => 0) (fun _ => 0)).2.2.2.2.2.2.2.2.1 else places) (if (rI0 byt tpd (fun _ => 0) (fun _ => 0) (fun _ => 0) (fun _ => 0)).1 < 0 then (fun _ => 0) else moved)), cin g ord 51 j4, cin g otp 200 (ubT byt), cch g olt 120 mlet])) ([.ref oh] : List Value).toArray s 0 0 (va_I [cob oh 11 [.ref os, .ref ok, .ref ol, .ref ord, .int isk, .ref odd, .ref otp, .int (nI tpd), .ref olt, .int oat, .int obg, .int otk, .int ovl, .ref orw, .int (nI rmn), .ref oso, .ref osz, .ref oit, .ref oho, .ref ohe, .ref otr, .int (nI tcd), .int own_, .int opt], cin g os 51 (mR stp laws z cnt fogs arms kinds faiths places moved), cin g ord 51 rr, cin g otp 200 (ubT byt), cch g olt 120 mlet])) (F0 m 30 ls []) := by
    intro fu
    induction fu with
    | zero =>
      intro k xx cn la fo ar ki fs ps rf is_ ov h1 h2
      exact absurd h2 (by omega)
    | succ fu ih_30 =>
      intro k xx cn la fo ar ki fs ps rf is_ ov hk1_30 hk2_30 hI hxx hcc hvl H locs hw ls hl
      refine lv_iload_n hx hb dX11_tunnel_30 rfl (lv_at hl 0 rfl) ?_
      refine lv_if_eq (tgt := 50) hx hb dX11_tunnel_31 (by decide) (fun c_3 => ?_) (fun c_3 => ?_)
      · have hF : (rI0 byt tpd (fun _ => 0) (fun _ => 0) (fun _ => 0) (fun _ => 0)).1 = nI (wdS byt tpd xx) := by rcases hI with h | h; exact absurd (h.1.symm.trans c_3) (by decide); exact h.2
        have hSb := wdS_b byt htz hxx
        refine lv_aload_n hx hb dX11_tunnel_50 rfl (lv_at hl 1 rfl) ?_
        refine lv_iconst (v := 0) hx hb dX11_tunnel_51 (by decide) ?_
        refine rp hf hk hw hinX11 tyX11 tyX11_ok nmX11 0 rfl rfl 7 (by decide) w_3 rfl (rfl) rfl (Nat.le_of_ble_eq_true rfl) dX11_tunnel_52 (W' := [cob oh 11 [.ref os, .ref ok, .ref ol, .ref ord, .int isk, .ref odd, .ref otp, .int 0, .ref olt, .int (nI (wdE byt tpd xx)), .int (nI (wdS byt tpd xx)), .int (tkF byt tpd xx), .int ov, .ref orw, .int (nI rmn), .ref oso, .ref osz, .ref oit, .ref oho, .ref ohe, .ref otr, .int (nI tcd), .int own_, .int opt], cin g os 51 (mR stp laws z cnt fogs arms kinds faiths places moved), cin g ord 51 rf, cin g otp 200 (ubT byt), cch g olt 120 mlet]) rfl (fun H locs hw => ?_)
        refine lv_iload_n hx hb dX11_tunnel_55 rfl (lv_at hl 0 rfl) ?_
        refine lv_if_ne (tgt := 67) hx hb dX11_tunnel_56 (by decide) (fun q => absurd (c_3) q) (fun _ => ?_)
        refine lv_bipush (v := (-100)) hx hb dX11_tunnel_59 (by decide) ?_
        refine lv_aload_n hx hb dX11_tunnel_61 rfl (lv_at hl 1 rfl) ?_
        refine rg hf hk hw hinX11 0 rfl rfl 10 (by decide) w_4 rfl dX11_tunnel_62 ?_
        refine lv_isub hx hb dX11_tunnel_65 ?_
        exact rE_i hf hr hlk hw ⟨congrArg some (by unfold f_X10_tunnel; rw [hF, if_neg (nI_pos (by omega))]), (nI (wdE byt tpd xx)), (nI (wdS byt tpd xx)), (tkF byt tpd xx), ov, rf, by simp only [hF, if_neg (nI_pos (show wdS byt tpd xx < 2 ^ 31 by omega))]⟩ (show ([oh, os, ord, otp, olt] : List Nat) = [oh, os, ord, otp, olt] from rfl) dX11_tunnel_66
      · rcases hI with hI | hI
        case inr => exact absurd hI.1 c_3
        obtain ⟨hi1, hi2, hi3, hi4⟩ := hI
        rw [hi2] at hw
        refine lv_aload_n hx hb dX11_tunnel_34 rfl (lv_at hl 1 rfl) ?_
        refine rg hf hk hw hinX11 0 rfl rfl 11 (by decide) w_5 rfl dX11_tunnel_35 ?_
        refine lv_iconst (v := (-1)) hx hb dX11_tunnel_38 (by decide) ?_
        refine lv_icmp_eq (tgt := 50) hx hb dX11_tunnel_39 (by decide) (fun c_4 => ?_) (fun c_4 => ?_)
        · have hw0 := (tk_end hby).mp c_4
          have hEq : (rI0 byt tpd (fun _ => 0) (fun _ => 0) (fun _ => 0) (fun _ => 0)) = (-1, xx, cn, la, fo, ar, ki, fs, ps, (fun _ => 0)) := by rw [hi3]; cases hq : 200 - k with | zero => rfl | succ r => exact if_pos hw0
          refine lv_aload_n hx hb dX11_tunnel_50 rfl (lv_at hl 1 rfl) ?_
          refine lv_iconst (v := 0) hx hb dX11_tunnel_51 (by decide) ?_
          refine rp hf hk hw hinX11 tyX11 tyX11_ok nmX11 0 rfl rfl 7 (by decide) w_3 rfl (rfl) rfl (Nat.le_of_ble_eq_true rfl) dX11_tunnel_52 (W' := [cob oh 11 [.ref os, .ref ok, .ref ol, .ref ord, .int isk, .ref odd, .ref otp, .int 0, .ref olt, .int (nI (wdE byt tpd xx)), .int (nI (wdS byt tpd xx)), .int (tkF byt tpd xx), .int ov, .ref orw, .int (nI rmn), .ref oso, .ref osz, .ref oit, .ref oho, .ref ohe, .ref otr, .int (nI tcd), .int own_, .int opt], cin g os 51 (mR stp laws z cnt fogs arms kinds faiths places moved), cin g ord 51 (mR 0 la z cn fo ar ki fs ps (fun _ => 0)), cin g otp 200 (ubT byt), cch g olt 120 mlet]) rfl (fun H locs hw => ?_)
          refine lv_iload_n hx hb dX11_tunnel_55 rfl (lv_at hl 0 rfl) ?_
          refine lv_if_ne (tgt := 67) hx hb dX11_tunnel_56 (by decide) (fun _ => ?_) (fun q => absurd q (c_3))
          refine lv_aload_n hx hb dX11_tunnel_67 rfl (lv_at hl 1 rfl) ?_
          refine rg hf hk hw hinX11 0 rfl rfl 3 (by decide) w_1 rfl dX11_tunnel_68 ?_
          refine lv_aload_n hx hb dX11_tunnel_71 rfl (lv_at hl 1 rfl) ?_
          refine rg hf hk hw hinX11 0 rfl rfl 0 (by decide) w_2 rfl dX11_tunnel_72 ?_
          refine mcS hf hk hst hw (c_X11_copies l g ord os (mR 0 la z cn fo ar ki fs ps (fun _ => 0)) (mR stp laws z cnt fogs arms kinds faiths places moved)) (va_cwS 2 hts gX11_tunnel_X11_copies rfl rfl rfl hdS_X11_copies ⟨Nat.le_of_ble_eq_true rfl, Nat.le_of_ble_eq_true rfl⟩) [2, 1] rfl rfl rfl hl.1 rfl (Nat.le_of_ble_eq_true rfl) dX11_tunnel_75 ⟨Nat.zero_le _, Nat.zero_le _⟩ (W' := [cob oh 11 [.ref os, .ref ok, .ref ol, .ref ord, .int isk, .ref odd, .ref otp, .int 0, .ref olt, .int (nI (wdE byt tpd xx)), .int (nI (wdS byt tpd xx)), .int (tkF byt tpd xx), .int ov, .ref orw, .int (nI rmn), .ref oso, .ref osz, .ref oit, .ref oho, .ref ohe, .ref otr, .int (nI tcd), .int own_, .int opt], cin g os 51 (mR 0 la z cn fo ar ki fs ps (fun _ => 0)), cin g ord 51 (mR 0 la z cn fo ar ki fs ps (fun _ => 0)), cin g otp 200 (ubT byt), cch g olt 120 mlet]) rfl (fun H locs hw => ?_)
          refine lv_aload_n hx hb dX11_tunnel_78 rfl (lv_at hl 1 rfl) ?_
          refine lv_iconst (v := 0) hx hb dX11_tunnel_79 (by decide) ?_
          refine rp hf hk hw hinX11 tyX11 tyX11_ok nmX11 0 rfl rfl 14 (by decide) w_6 rfl (rfl) rfl (Nat.le_of_ble_eq_true rfl) dX11_tunnel_80 (W' := [cob oh 11 [.ref os, .ref ok, .ref ol, .ref ord, .int isk, .ref odd, .ref otp, .int 0, .ref olt, .int (nI (wdE byt tpd xx)), .int (nI (wdS byt tpd xx)), .int (tkF byt tpd xx), .int ov, .ref orw, .int 0, .ref oso, .ref osz, .ref oit, .ref oho, .ref ohe, .ref otr, .int (nI tcd), .int own_, .int opt], cin g os 51 (mR 0 la z cn fo ar ki fs ps (fun _ => 0)), cin g ord 51 (mR 0 la z cn fo ar ki fs ps (fun _ => 0)), cin g otp 200 (ubT byt), cch g olt 120 mlet]) rfl (fun H locs hw => ?_)
          refine lv_aload_n hx hb dX11_tunnel_83 rfl (lv_at hl 1 rfl) ?_
          refine rg hf hk hw hinX11 0 rfl rfl 0 (by decide) w_2 rfl dX11_tunnel_84 ?_
          refine lv_bipush (v := 6) hx hb dX11_tunnel_87 (by decide) ?_
          refine rij hf hk hw 1 rfl (j := 6) (vp_in_nI (n := 6) (by omega) (by omega)) (rfl) dX11_tunnel_89 ?_
          refine lv_tope (y := nI cn) (rfl) ?_
          exact rE_i hf hr hlk hw ⟨congrArg some (by unfold f_X10_tunnel; rw [hEq, if_pos (show (-1 : Int32) < 0 by decide)]), (nI (wdE byt tpd xx)), (nI (wdS byt tpd xx)), (tkF byt tpd xx), ov, (mR 0 la z cn fo ar ki fs ps (fun _ => 0)), by rw [hEq]; rfl⟩ (show ([oh, os, ord, otp, olt] : List Nat) = [oh, os, ord, otp, olt] from rfl) dX11_tunnel_90
        · have hne : ¬ wdO byt tpd xx = 0 := fun h => c_4 ((tk_end hby).mpr h)
          have hlt := wd_lt htz hxx hne
          refine lv_aload_n hx hb dX11_tunnel_42 rfl (lv_at hl 1 rfl) ?_
          refine mcVF hf hk hst hw (c_X11_readsOne l g oh os ok ol ord odd otp olt orw oso osz oit oho ohe otr stp laws z cnt fogs arms kinds faiths places moved isk tpd ov rmn tcd own_ opt byt xx 0 la z cn fo ar ki fs ps (fun _ => 0) (by omega) (by assumption) (by omega) (hvl) (by omega)) (cwV 0 hts gX11_tunnel_X11_readsOne rfl rfl rfl hdV_X11_readsOne ⟨Nat.le_of_ble_eq_true rfl, Nat.le_of_ble_eq_true rfl⟩) 0 rfl rfl rfl hl.1 rfl (Nat.le_of_ble_eq_true rfl) dX11_tunnel_43 ⟨Nat.zero_le _, Nat.zero_le _⟩ (fun rv ws2 hPo H locs hw => ?_)
          obtain ⟨rfl, u5_j0, u5_j1, u5_s, rfl⟩ := hPo
          have hxN := rsX_le (byt := byt) (cn := cn) htz hxx
          have hcN := rs_c tpd byt xx hcc
          have hI : ((f_X7_readSentence tpd byt xx cn) = 1 ∧ u5_j1 = mR 0 (f_X7_readSentence_w2 tpd byt xx la) z (f_X7_readSentence_w1 tpd byt xx cn) (f_X7_readSentence_w3 tpd byt xx fo) (f_X7_readSentence_w4 tpd byt xx ar) (f_X7_readSentence_w5 tpd byt xx ki cn) (f_X7_readSentence_w6 tpd byt xx fs cn) (f_X7_readSentence_w7 tpd byt xx ps cn) (fun _ => 0) ∧ (rI0 byt tpd (fun _ => 0) (fun _ => 0) (fun _ => 0) (fun _ => 0)) = rI byt tpd (200 - (k + 1)) (rsX byt tpd xx cn) (f_X7_readSentence_w1 tpd byt xx cn) (f_X7_readSentence_w2 tpd byt xx la) (f_X7_readSentence_w3 tpd byt xx fo) (f_X7_readSentence_w4 tpd byt xx ar) (f_X7_readSentence_w5 tpd byt xx ki cn) (f_X7_readSentence_w6 tpd byt xx fs cn) (f_X7_readSentence_w7 tpd byt xx ps cn) (fun _ => 0) ∧ k + 1 ≤ rsX byt tpd xx cn) ∨ ((f_X7_readSentence tpd byt xx cn) = 0 ∧ (rI0 byt tpd (fun _ => 0) (fun _ => 0) (fun _ => 0) (fun _ => 0)).1 = nI (wdS byt tpd (rsX byt tpd xx cn))) := by
            rw [show 200 - k = (200 - (k + 1)) + 1 by omega] at hi3
            by_cases hq : (f_X7_readSentence tpd byt xx cn) = 0
            · refine Or.inr ⟨hq, ?_⟩
              rw [hi3.trans ((if_neg hne).trans (if_pos hq)), show rsX byt tpd xx cn = f_X7_readSentence_x tpd byt xx cn from if_pos hq]
            · have hp := rs_prog htz hxx hq
              refine Or.inl ⟨rs_one hq, u5_s.2 hq, ?_, by omega⟩
              rw [hi3.trans ((if_neg hne).trans (if_neg hq)), w8_Z, show rsX byt tpd xx cn = wdE byt tpd (f_X7_readSentence_x tpd byt xx cn) from if_neg hq]
          have hvN := u5_s.1
          refine lv_istore_n (lv' := [(1, .int (f_X7_readSentence tpd byt xx cn)), (0, .ref oh)]) hx hb dX11_tunnel_46 rfl hl (by decide) rfl (fun ls hl => ?_)
          refine lv_goto (tgt := 30) hx hb dX11_tunnel_47 (by decide) ?_
          exact ih_30 (k + 1) (rsX byt tpd xx cn) (f_X7_readSentence_w1 tpd byt xx cn) (f_X7_readSentence_w2 tpd byt xx la) (f_X7_readSentence_w3 tpd byt xx fo) (f_X7_readSentence_w4 tpd byt xx ar) (f_X7_readSentence_w5 tpd byt xx ki cn) (f_X7_readSentence_w6 tpd byt xx fs cn) (f_X7_readSentence_w7 tpd byt xx ps cn) u5_j1 (f_X7_readSentence tpd byt xx cn) u5_j0 (by omega) (by omega) (hI) (hxN) (hcN) (hvN) _ _ hw _ (lv_sub hl [0, 1] rfl)
  exact lp_30_1 (200 + 1) 0 0 0 tq_first (fun _ => 2) (fun _ => 4) (fun _ => 0) (fun _ => 0) (fun _ => 0) (mR 0 tq_first z 0 (fun _ => 2) (fun _ => 4) (fun _ => 0) (fun _ => 0) (fun _ => 0) (fun _ => 0)) 1 u1_j0 (by omega) (by omega) (Or.inl ⟨rfl, rfl, rfl, Nat.le_refl _⟩) (Nat.zero_le _) (Nat.zero_le _) (u1_s) _ _ hw _ (lv_sub hl [0, 1] rfl)
