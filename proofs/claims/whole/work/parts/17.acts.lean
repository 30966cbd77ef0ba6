/-! acts: the trace, and what a thing that is parted by 0 leaves -/
def tr1 (p : Nat × (Nat → Int32)) (b : Int32) : Nat × (Nat → Int32) := if 30 ≤ nI p.1 then p else (p.1 + 1, upd p.2 p.1 b)
theorem pr_eta (p : Nat × (Nat → Int32)) : (p.1, p.2) = p := rfl
def brk (an ap ab : Int32) : Int32 := if ap - an = 0 then 1 else ab
def prt (an ap x : Int32) : Int32 := if ap - an = 0 then 0 else x / (ap - an)
theorem tr1_le (p : Nat × (Nat → Int32)) (b : Int32) (h : p.1 ≤ 30) : (tr1 p b).1 ≤ 30 := by
  unfold tr1
  by_cases hq : (30 : Int32) ≤ nI p.1
  · rw [if_pos hq]; exact h
  · rw [if_neg hq]
    have : p.1 < 30 := Nat.not_le.mp (fun z => hq ((nI_leI (a := 30) (by omega) (by omega)).mpr z))
    show p.1 + 1 ≤ 30
    omega
abbrev rmX4_actLooks : Room := { frames := 0, cells := 0, slots := 0, locals := 0 }
set_option maxHeartbeats 4000000 in
set_option maxRecDepth 100000 in
theorem c_X4_actLooks (l : Launch) (g : GG) (kr : Nat) (oa : Nat) (lbd : Nat) (an : Int32) (ap : Int32) (ab : Int32) (bg : Nat) (bod : Nat → Int32) (x : Int32) (hbg : bg ≤ 30) : mt l g yX4_actLooks wsX4_actLooks rmX4_actLooks [.ref kr, .ref oa, .int x] [cob oa 0 [.int an, .int ap, .int ab, .int (nI bg), .ref lbd], cin g lbd 30 bod] (some (.int ((x * 3) - an))) [cob oa 0 [.int an, .int ap, .int ab, .int (nI (tr1 (bg, bod) 10).1), .ref lbd], cin g lbd 30 ((tr1 (bg, bod) 10).2)] := by
  refine mt.of (cc := cX4_actLooks) (nL := 3) (ret := (some .int)) (own := RX4) (by decide +kernel) rfl rfl (show ([oa, lbd] : List Nat) = [oa, lbd] from rfl) (Nat.le_of_ble_eq_true rfl) (fun p e s m below meth c hf hr hlk _ hk hst hw ls hl => ?_)
  have hx := hf.1
  have hb := hf.2.1
  have hts := hf.2.2.2.2
  have hl : lv_has ls 3 [(0, .ref kr), (1, .ref oa), (2, .int x)] := hl
  have hinX0 : ∀ w ∈ u_ws RX0 TX0 5, w ∈ wsX4_actLooks := fun w h => List.mem_cons_of_mem _ (List.mem_append_right _ h)
  have w_0 : Cond.fieldLink RX4 9 "LightMan$Acting" "began" "I" ∈ wsX4_actLooks := List.mem_of_getElem? (i := 1) rfl
  have w_1 : Cond.fieldLink RX4 19 "LightMan$Acting" "number" "I" ∈ wsX4_actLooks := List.mem_of_getElem? (i := 3) rfl
  have w_2 : Cond.fieldLink RX4 15 "LightMan$Acting" "bodies" "[I" ∈ wsX4_actLooks := List.mem_of_getElem? (i := 2) rfl
  refine lv_aload_n hx hb dX4_actLooks_0 rfl (lv_at hl 1 rfl) ?_
  refine rg hf hk hw hinX0 0 rfl rfl 3 (by decide) w_0 rfl dX4_actLooks_1 ?_
  refine lv_bipush (v := 30) hx hb dX4_actLooks_4 (by decide) ?_
  refine lv_icmp_ge (tgt := 27) hx hb dX4_actLooks_6 (by decide) (fun c_1 => ?_) (fun c_1 => ?_)
  · refine lv_iload_n hx hb dX4_actLooks_27 rfl (lv_at hl 2 rfl) ?_
    refine lv_iconst (v := 3) hx hb dX4_actLooks_28 (by decide) ?_
    refine lv_imul hx hb dX4_actLooks_29 ?_
    refine lv_aload_n hx hb dX4_actLooks_30 rfl (lv_at hl 1 rfl) ?_
    refine rg hf hk hw hinX0 0 rfl rfl 0 (by decide) w_1 rfl dX4_actLooks_31 ?_
    refine lv_isub hx hb dX4_actLooks_34 ?_
    have h1 : tr1 (bg, bod) 10 = (bg, bod) := if_pos c_1
    exact re_i hf hr hlk hw (rfl) (by simp only [h1, pr_eta]) dX4_actLooks_35
  · have hb30 : bg < 30 := Nat.not_le.mp (fun h => c_1 ((nI_leI (a := 30) (by omega) (by omega)).mpr h))
    refine lv_aload_n hx hb dX4_actLooks_9 rfl (lv_at hl 1 rfl) ?_
    refine rg hf hk hw hinX0 0 rfl rfl 4 (by decide) w_2 rfl dX4_actLooks_10 ?_
    refine lv_aload_n hx hb dX4_actLooks_13 rfl (lv_at hl 1 rfl) ?_
    refine lv_dup hx hb dX4_actLooks_14 rfl ?_
    refine rg hf hk hw hinX0 0 rfl rfl 3 (by decide) w_0 rfl dX4_actLooks_15 ?_
    refine lv_dup_x1 hx hb dX4_actLooks_18 rfl rfl ?_
    refine lv_iconst (v := 1) hx hb dX4_actLooks_19 (by decide) ?_
    refine lv_iadd hx hb dX4_actLooks_20 ?_
    refine lv_tope (y := nI (bg + 1)) (nI_1 _) ?_
    refine rp hf hk hw hinX0 tyX0 tyX0_ok nmX0 0 rfl rfl 3 (by decide) w_0 rfl (rfl) rfl (Nat.le_of_ble_eq_true rfl) dX4_actLooks_21 (W' := [cob oa 0 [.int an, .int ap, .int ab, .int (nI (bg + 1)), .ref lbd], cin g lbd 30 bod]) rfl (fun H locs hw => ?_)
    refine lv_bipush (v := 10) hx hb dX4_actLooks_24 (by decide) ?_
    refine rsj hf hk hw 1 rfl (j := bg) (vp_in_nI (by omega) (by omega)) (nI_clamp (by omega)) dX4_actLooks_26 (W' := [cob oa 0 [.int an, .int ap, .int ab, .int (nI (bg + 1)), .ref lbd], cin g lbd 30 (upd bod bg 10)]) rfl (fun H locs hw => ?_)
    refine lv_iload_n hx hb dX4_actLooks_27 rfl (lv_at hl 2 rfl) ?_
    refine lv_iconst (v := 3) hx hb dX4_actLooks_28 (by decide) ?_
    refine lv_imul hx hb dX4_actLooks_29 ?_
    refine lv_aload_n hx hb dX4_actLooks_30 rfl (lv_at hl 1 rfl) ?_
    refine rg hf hk hw hinX0 0 rfl rfl 0 (by decide) w_1 rfl dX4_actLooks_31 ?_
    refine lv_isub hx hb dX4_actLooks_34 ?_
    have h1 : tr1 (bg, bod) 10 = (bg + 1, upd bod bg 10) := if_neg c_1
    exact re_i hf hr hlk hw (rfl) (by simp only [h1, pr_eta]) dX4_actLooks_35
abbrev rmX4_actParts : Room := { frames := 0, cells := 0, slots := 0, locals := 0 }
set_option maxHeartbeats 4000000 in
set_option maxRecDepth 100000 in
theorem c_X4_actParts (l : Launch) (g : GG) (kr : Nat) (oa : Nat) (lbd : Nat) (an : Int32) (ap : Int32) (ab : Int32) (bg : Nat) (bod : Nat → Int32) (x : Int32) (hbg : bg ≤ 30) : mt l g yX4_actParts wsX4_actParts rmX4_actParts [.ref kr, .ref oa, .int x] [cob oa 0 [.int an, .int ap, .int ab, .int (nI bg), .ref lbd], cin g lbd 30 bod] (some (.int (prt an ap x))) [cob oa 0 [.int an, .int ap, .int (brk an ap ab), .int (nI (tr1 (bg, bod) 12).1), .ref lbd], cin g lbd 30 ((tr1 (bg, bod) 12).2)] := by
  refine mt.of (cc := cX4_actParts) (nL := 4) (ret := (some .int)) (own := RX4) (by decide +kernel) rfl rfl (show ([oa, lbd] : List Nat) = [oa, lbd] from rfl) (Nat.le_of_ble_eq_true rfl) (fun p e s m below meth c hf hr hlk _ hk hst hw ls hl => ?_)
  have hx := hf.1
  have hb := hf.2.1
  have hts := hf.2.2.2.2
  have hl : lv_has ls 4 [(0, .ref kr), (1, .ref oa), (2, .int x)] := hl
  have hinX0 : ∀ w ∈ u_ws RX0 TX0 5, w ∈ wsX4_actParts := fun w h => List.mem_cons_of_mem _ (List.mem_append_right _ h)
  have w_0 : Cond.fieldLink RX4 9 "LightMan$Acting" "began" "I" ∈ wsX4_actParts := List.mem_of_getElem? (i := 1) rfl
  have w_1 : Cond.fieldLink RX4 28 "LightMan$Acting" "place" "I" ∈ wsX4_actParts := List.mem_of_getElem? (i := 3) rfl
  have w_2 : Cond.fieldLink RX4 19 "LightMan$Acting" "number" "I" ∈ wsX4_actParts := List.mem_of_getElem? (i := 4) rfl
  have w_3 : Cond.fieldLink RX4 31 "LightMan$Acting" "isBroken" "Z" ∈ wsX4_actParts := List.mem_of_getElem? (i := 5) rfl
  have w_4 : Cond.fieldLink RX4 15 "LightMan$Acting" "bodies" "[I" ∈ wsX4_actParts := List.mem_of_getElem? (i := 2) rfl
  refine lv_aload_n hx hb dX4_actParts_0 rfl (lv_at hl 1 rfl) ?_
  refine rg hf hk hw hinX0 0 rfl rfl 3 (by decide) w_0 rfl dX4_actParts_1 ?_
  refine lv_bipush (v := 30) hx hb dX4_actParts_4 (by decide) ?_
  refine lv_icmp_ge (tgt := 27) hx hb dX4_actParts_6 (by decide) (fun c_1 => ?_) (fun c_1 => ?_)
  · refine lv_aload_n hx hb dX4_actParts_27 rfl (lv_at hl 1 rfl) ?_
    refine rg hf hk hw hinX0 0 rfl rfl 1 (by decide) w_1 rfl dX4_actParts_28 ?_
    refine lv_aload_n hx hb dX4_actParts_31 rfl (lv_at hl 1 rfl) ?_
    refine rg hf hk hw hinX0 0 rfl rfl 0 (by decide) w_2 rfl dX4_actParts_32 ?_
    refine lv_isub hx hb dX4_actParts_35 ?_
    refine lv_istore_n (lv' := [(3, .int (ap - an)), (0, .ref kr), (1, .ref oa), (2, .int x)]) hx hb dX4_actParts_36 rfl hl (by decide) rfl (fun ls hl => ?_)
    refine lv_iload_n hx hb dX4_actParts_37 rfl (lv_at hl 0 rfl) ?_
    refine lv_if_ne (tgt := 48) hx hb dX4_actParts_38 (by decide) (fun c_2 => ?_) (fun c_2 => ?_)
    · refine lv_iload_n hx hb dX4_actParts_48 rfl (lv_at hl 3 rfl) ?_
      refine lv_iload_n hx hb dX4_actParts_49 rfl (lv_at hl 0 rfl) ?_
      refine lv_idiv hx hb dX4_actParts_50 (by assumption) ?_
      have h1 : tr1 (bg, bod) 12 = (bg, bod) := if_pos c_1
      exact re_i hf hr hlk hw (by unfold prt; rw [if_neg c_2]) (by simp only [h1, pr_eta, show brk an ap ab = ab from if_neg c_2]) dX4_actParts_51
    · refine lv_aload_n hx hb dX4_actParts_41 rfl (lv_at hl 2 rfl) ?_
      refine lv_iconst (v := 1) hx hb dX4_actParts_42 (by decide) ?_
      refine rp hf hk hw hinX0 tyX0 tyX0_ok nmX0 0 rfl rfl 2 (by decide) w_3 rfl (rfl) rfl (Nat.le_of_ble_eq_true rfl) dX4_actParts_43 (W' := [cob oa 0 [.int an, .int ap, .int 1, .int (nI bg), .ref lbd], cin g lbd 30 bod]) rfl (fun H locs hw => ?_)
      refine lv_iconst (v := 0) hx hb dX4_actParts_46 (by decide) ?_
      have h1 : tr1 (bg, bod) 12 = (bg, bod) := if_pos c_1
      exact re_i hf hr hlk hw (by unfold prt; rw [if_pos c_2]) (by simp only [h1, pr_eta, show brk an ap ab = 1 from if_pos c_2]) dX4_actParts_47
  · have hb30 : bg < 30 := Nat.not_le.mp (fun h => c_1 ((nI_leI (a := 30) (by omega) (by omega)).mpr h))
    refine lv_aload_n hx hb dX4_actParts_9 rfl (lv_at hl 1 rfl) ?_
    refine rg hf hk hw hinX0 0 rfl rfl 4 (by decide) w_4 rfl dX4_actParts_10 ?_
    refine lv_aload_n hx hb dX4_actParts_13 rfl (lv_at hl 1 rfl) ?_
    refine lv_dup hx hb dX4_actParts_14 rfl ?_
    refine rg hf hk hw hinX0 0 rfl rfl 3 (by decide) w_0 rfl dX4_actParts_15 ?_
    refine lv_dup_x1 hx hb dX4_actParts_18 rfl rfl ?_
    refine lv_iconst (v := 1) hx hb dX4_actParts_19 (by decide) ?_
    refine lv_iadd hx hb dX4_actParts_20 ?_
    refine lv_tope (y := nI (bg + 1)) (nI_1 _) ?_
    refine rp hf hk hw hinX0 tyX0 tyX0_ok nmX0 0 rfl rfl 3 (by decide) w_0 rfl (rfl) rfl (Nat.le_of_ble_eq_true rfl) dX4_actParts_21 (W' := [cob oa 0 [.int an, .int ap, .int ab, .int (nI (bg + 1)), .ref lbd], cin g lbd 30 bod]) rfl (fun H locs hw => ?_)
    refine lv_bipush (v := 12) hx hb dX4_actParts_24 (by decide) ?_
    refine rsj hf hk hw 1 rfl (j := bg) (vp_in_nI (by omega) (by omega)) (nI_clamp (by omega)) dX4_actParts_26 (W' := [cob oa 0 [.int an, .int ap, .int ab, .int (nI (bg + 1)), .ref lbd], cin g lbd 30 (upd bod bg 12)]) rfl (fun H locs hw => ?_)
    refine lv_aload_n hx hb dX4_actParts_27 rfl (lv_at hl 1 rfl) ?_
    refine rg hf hk hw hinX0 0 rfl rfl 1 (by decide) w_1 rfl dX4_actParts_28 ?_
    refine lv_aload_n hx hb dX4_actParts_31 rfl (lv_at hl 1 rfl) ?_
    refine rg hf hk hw hinX0 0 rfl rfl 0 (by decide) w_2 rfl dX4_actParts_32 ?_
    refine lv_isub hx hb dX4_actParts_35 ?_
    refine lv_istore_n (lv' := [(3, .int (ap - an)), (0, .ref kr), (1, .ref oa), (2, .int x)]) hx hb dX4_actParts_36 rfl hl (by decide) rfl (fun ls hl => ?_)
    refine lv_iload_n hx hb dX4_actParts_37 rfl (lv_at hl 0 rfl) ?_
    refine lv_if_ne (tgt := 48) hx hb dX4_actParts_38 (by decide) (fun c_3 => ?_) (fun c_3 => ?_)
    · refine lv_iload_n hx hb dX4_actParts_48 rfl (lv_at hl 3 rfl) ?_
      refine lv_iload_n hx hb dX4_actParts_49 rfl (lv_at hl 0 rfl) ?_
      refine lv_idiv hx hb dX4_actParts_50 (by assumption) ?_
      have h1 : tr1 (bg, bod) 12 = (bg + 1, upd bod bg 12) := if_neg c_1
      exact re_i hf hr hlk hw (by unfold prt; rw [if_neg c_3]) (by simp only [h1, pr_eta, show brk an ap ab = ab from if_neg c_3]) dX4_actParts_51
    · refine lv_aload_n hx hb dX4_actParts_41 rfl (lv_at hl 2 rfl) ?_
      refine lv_iconst (v := 1) hx hb dX4_actParts_42 (by decide) ?_
      refine rp hf hk hw hinX0 tyX0 tyX0_ok nmX0 0 rfl rfl 2 (by decide) w_3 rfl (rfl) rfl (Nat.le_of_ble_eq_true rfl) dX4_actParts_43 (W' := [cob oa 0 [.int an, .int ap, .int 1, .int (nI (bg + 1)), .ref lbd], cin g lbd 30 (upd bod bg 12)]) rfl (fun H locs hw => ?_)
      refine lv_iconst (v := 0) hx hb dX4_actParts_46 (by decide) ?_
      have h1 : tr1 (bg, bod) 12 = (bg + 1, upd bod bg 12) := if_neg c_1
      exact re_i hf hr hlk hw (by unfold prt; rw [if_pos c_3]) (by simp only [h1, pr_eta, show brk an ap ab = 1 from if_pos c_3]) dX4_actParts_47
theorem hdP_X4_actLooks : yX4_actLooks.name ≠ "<init>" ∧ (parseMethodDescriptor yX4_actLooks.desc).map (fun d => d.parameters.length) = some 2 := by decide +kernel
abbrev rmX5_actLooks : Room := { frames := 1, cells := 0, slots := 0, locals := 22 }
set_option maxHeartbeats 4000000 in
set_option maxRecDepth 100000 in
theorem c_X5_actLooks (l : Launch) (g : GG) (kr : Nat) (ci : Nat) (C : String) (T : u_T) (N : Nat) (oa : Nat) (lbd : Nat) (an : Int32) (ap : Int32) (ab : Int32) (bg : Nat) (bod : Nat → Int32) (x : Int32) (hc : vwCl[ci]? = some (C, T, N)) (hbg : bg ≤ 30) : mt l g yX5_actLooks wsX5_actLooks rmX5_actLooks [.ref kr, .ref oa, .int x] [cob kr ci [], cob oa 0 [.int an, .int ap, .int ab, .int (nI bg), .ref lbd], cin g lbd 30 bod] (some (.int (((x * 3) - an) * 2))) [cob kr ci [], cob oa 0 [.int an, .int ap, .int ab, .int (nI (tr1 (tr1 (bg, bod) 30) 10).1), .ref lbd], cin g lbd 30 ((tr1 (tr1 (bg, bod) 30) 10).2)] := by
  refine mt.of (cc := cX5_actLooks) (nL := 3) (ret := (some .int)) (own := RX5) (by decide +kernel) rfl rfl (show ([kr, oa, lbd] : List Nat) = [kr, oa, lbd] from rfl) (Nat.le_of_ble_eq_true rfl) (fun p e s m below meth c hf hr hlk _ hk hst hw ls hl => ?_)
  have hx := hf.1
  have hb := hf.2.1
  have hts := hf.2.2.2.2
  have hl : lv_has ls 3 [(0, .ref kr), (1, .ref oa), (2, .int x)] := hl
  have hinX0 : ∀ w ∈ u_ws RX0 TX0 5, w ∈ wsX5_actLooks := fun w h => List.mem_cons_of_mem _ (List.mem_append_right _ h)
  have w_0 : Cond.fieldLink RX5 21 "LightMan$Acting" "began" "I" ∈ wsX5_actLooks := List.mem_of_getElem? (i := 1) rfl
  have w_1 : Cond.fieldLink RX5 27 "LightMan$Acting" "bodies" "[I" ∈ wsX5_actLooks := List.mem_of_getElem? (i := 2) rfl
  refine lv_aload_n hx hb dX5_actLooks_0 rfl (lv_at hl 1 rfl) ?_
  refine rg hf hk hw hinX0 1 rfl rfl 3 (by decide) w_0 rfl dX5_actLooks_1 ?_
  refine lv_bipush (v := 30) hx hb dX5_actLooks_4 (by decide) ?_
  refine lv_icmp_ge (tgt := 27) hx hb dX5_actLooks_6 (by decide) (fun c_1 => ?_) (fun c_1 => ?_)
  · refine lv_aload_n hx hb dX5_actLooks_27 rfl (lv_at hl 0 rfl) ?_
    refine lv_aload_n hx hb dX5_actLooks_28 rfl (lv_at hl 1 rfl) ?_
    refine lv_iload_n hx hb dX5_actLooks_29 rfl (lv_at hl 2 rfl) ?_
    refine mcP hf hk hst hw (c_X4_actLooks l g kr oa lbd an ap ab bg bod x (by first | omega | ((repeat apply tr1_le); dsimp only; omega))) (va_cwSU 2 hts gX5_actLooks_X4_actLooks_s31 rfl rfl rfl hdP_X4_actLooks ⟨Nat.le_of_ble_eq_true rfl, Nat.le_of_ble_eq_true rfl⟩) [1, 2] rfl rfl 0 rfl hc rfl hl.1 rfl (Nat.le_of_ble_eq_true rfl) dX5_actLooks_30 ⟨Nat.zero_le _, Nat.zero_le _⟩ (W' := [cob kr ci [], cob oa 0 [.int an, .int ap, .int ab, .int (nI (tr1 (bg, bod) 10).1), .ref lbd], cin g lbd 30 ((tr1 (bg, bod) 10).2)]) rfl (fun H locs hw => ?_)
    refine lv_iconst (v := 2) hx hb dX5_actLooks_33 (by decide) ?_
    refine lv_imul hx hb dX5_actLooks_34 ?_
    have h1 : tr1 (bg, bod) 30 = (bg, bod) := if_pos c_1
    exact re_i hf hr hlk hw (rfl) (by simp only [h1, pr_eta]) dX5_actLooks_35
  · have hb30 : bg < 30 := Nat.not_le.mp (fun h => c_1 ((nI_leI (a := 30) (by omega) (by omega)).mpr h))
    refine lv_aload_n hx hb dX5_actLooks_9 rfl (lv_at hl 1 rfl) ?_
    refine rg hf hk hw hinX0 1 rfl rfl 4 (by decide) w_1 rfl dX5_actLooks_10 ?_
    refine lv_aload_n hx hb dX5_actLooks_13 rfl (lv_at hl 1 rfl) ?_
    refine lv_dup hx hb dX5_actLooks_14 rfl ?_
    refine rg hf hk hw hinX0 1 rfl rfl 3 (by decide) w_0 rfl dX5_actLooks_15 ?_
    refine lv_dup_x1 hx hb dX5_actLooks_18 rfl rfl ?_
    refine lv_iconst (v := 1) hx hb dX5_actLooks_19 (by decide) ?_
    refine lv_iadd hx hb dX5_actLooks_20 ?_
    refine lv_tope (y := nI (bg + 1)) (nI_1 _) ?_
    refine rp hf hk hw hinX0 tyX0 tyX0_ok nmX0 1 rfl rfl 3 (by decide) w_0 rfl (rfl) rfl (Nat.le_of_ble_eq_true rfl) dX5_actLooks_21 (W' := [cob kr ci [], cob oa 0 [.int an, .int ap, .int ab, .int (nI (bg + 1)), .ref lbd], cin g lbd 30 bod]) rfl (fun H locs hw => ?_)
    refine lv_bipush (v := 30) hx hb dX5_actLooks_24 (by decide) ?_
    refine rsj hf hk hw 2 rfl (j := bg) (vp_in_nI (by omega) (by omega)) (nI_clamp (by omega)) dX5_actLooks_26 (W' := [cob kr ci [], cob oa 0 [.int an, .int ap, .int ab, .int (nI (bg + 1)), .ref lbd], cin g lbd 30 (upd bod bg 30)]) rfl (fun H locs hw => ?_)
    refine lv_aload_n hx hb dX5_actLooks_27 rfl (lv_at hl 0 rfl) ?_
    refine lv_aload_n hx hb dX5_actLooks_28 rfl (lv_at hl 1 rfl) ?_
    refine lv_iload_n hx hb dX5_actLooks_29 rfl (lv_at hl 2 rfl) ?_
    refine mcP hf hk hst hw (c_X4_actLooks l g kr oa lbd an ap ab (bg + 1) (upd bod bg 30) x (by first | omega | ((repeat apply tr1_le); dsimp only; omega))) (va_cwSU 2 hts gX5_actLooks_X4_actLooks_s31 rfl rfl rfl hdP_X4_actLooks ⟨Nat.le_of_ble_eq_true rfl, Nat.le_of_ble_eq_true rfl⟩) [1, 2] rfl rfl 0 rfl hc rfl hl.1 rfl (Nat.le_of_ble_eq_true rfl) dX5_actLooks_30 ⟨Nat.zero_le _, Nat.zero_le _⟩ (W' := [cob kr ci [], cob oa 0 [.int an, .int ap, .int ab, .int (nI (tr1 ((bg + 1), (upd bod bg 30)) 10).1), .ref lbd], cin g lbd 30 ((tr1 ((bg + 1), (upd bod bg 30)) 10).2)]) rfl (fun H locs hw => ?_)
    refine lv_iconst (v := 2) hx hb dX5_actLooks_33 (by decide) ?_
    refine lv_imul hx hb dX5_actLooks_34 ?_
    have h1 : tr1 (bg, bod) 30 = (bg + 1, upd bod bg 30) := if_neg c_1
    exact re_i hf hr hlk hw (rfl) (by simp only [h1, pr_eta]) dX5_actLooks_35
abbrev rmX6_actLooks_6 : Room := { frames := 1, cells := 0, slots := 0, locals := 22 }
set_option maxHeartbeats 4000000 in
set_option maxRecDepth 100000 in
theorem c_X6_actLooks_6 (l : Launch) (g : GG) (kr : Nat) (oa : Nat) (lbd : Nat) (an : Int32) (ap : Int32) (ab : Int32) (bg : Nat) (bod : Nat → Int32) (x : Int32) (hbg : bg ≤ 30) : mt l g yX6_actLooks wsX6_actLooks rmX6_actLooks_6 [.ref kr, .ref oa, .int x] [cob kr 6 [], cob oa 0 [.int an, .int ap, .int ab, .int (nI bg), .ref lbd], cin g lbd 30 bod] (some (.int (((x * 3) - an) + 3))) [cob kr 6 [], cob oa 0 [.int an, .int ap, .int ab, .int (nI (tr1 (tr1 (bg, bod) 51) 10).1), .ref lbd], cin g lbd 30 ((tr1 (tr1 (bg, bod) 51) 10).2)] := by
  refine mt.of (cc := cX6_actLooks) (nL := 3) (ret := (some .int)) (own := RX6) (by decide +kernel) rfl rfl (show ([kr, oa, lbd] : List Nat) = [kr, oa, lbd] from rfl) (Nat.le_of_ble_eq_true rfl) (fun p e s m below meth c hf hr hlk _ hk hst hw ls hl => ?_)
  have hx := hf.1
  have hb := hf.2.1
  have hts := hf.2.2.2.2
  have hl : lv_has ls 3 [(0, .ref kr), (1, .ref oa), (2, .int x)] := hl
  have hinX0 : ∀ w ∈ u_ws RX0 TX0 5, w ∈ wsX6_actLooks := fun w h => List.mem_cons_of_mem _ (List.mem_append_right _ h)
  have w_0 : Cond.fieldLink RX6 25 "LightMan$Acting" "began" "I" ∈ wsX6_actLooks := List.mem_of_getElem? (i := 1) rfl
  have w_1 : Cond.fieldLink RX6 31 "LightMan$Acting" "bodies" "[I" ∈ wsX6_actLooks := List.mem_of_getElem? (i := 2) rfl
  refine lv_aload_n hx hb dX6_actLooks_0 rfl (lv_at hl 1 rfl) ?_
  refine rg hf hk hw hinX0 1 rfl rfl 3 (by decide) w_0 rfl dX6_actLooks_1 ?_
  refine lv_bipush (v := 30) hx hb dX6_actLooks_4 (by decide) ?_
  refine lv_icmp_ge (tgt := 27) hx hb dX6_actLooks_6 (by decide) (fun c_1 => ?_) (fun c_1 => ?_)
  · refine lv_aload_n hx hb dX6_actLooks_27 rfl (lv_at hl 0 rfl) ?_
    refine lv_aload_n hx hb dX6_actLooks_28 rfl (lv_at hl 1 rfl) ?_
    refine lv_iload_n hx hb dX6_actLooks_29 rfl (lv_at hl 2 rfl) ?_
    refine mcQ (x := ⟨"LightMan$Driver", "actLooks", "(LLightMan$Acting;I)I"⟩) (owner := "LightMan$Kind") hf hk hst hw (c_X4_actLooks l g kr oa lbd an ap ab bg bod x (by first | omega | ((repeat apply tr1_le); dsimp only; omega))) rfl (fun w h => List.mem_append_right _ (List.mem_append_right _ (List.mem_append_right _ (List.mem_append_left _ h)))) rfl (List.mem_of_getElem? (i := 4) rfl) (List.mem_of_getElem? (i := 5) rfl) (List.mem_of_getElem? (i := 9) rfl) (List.mem_of_getElem? (i := 11) rfl) (List.mem_of_getElem? (i := 14) rfl) (List.mem_of_getElem? (i := 16) rfl) hdP_X4_actLooks rfl rfl ⟨Nat.le_of_ble_eq_true rfl, Nat.le_of_ble_eq_true rfl⟩ [1, 2] rfl rfl 0 rfl rfl rfl hl.1 rfl (Nat.le_of_ble_eq_true rfl) dX6_actLooks_30 ⟨Nat.zero_le _, Nat.zero_le _⟩ (W' := [cob kr 6 [], cob oa 0 [.int an, .int ap, .int ab, .int (nI (tr1 (bg, bod) 10).1), .ref lbd], cin g lbd 30 ((tr1 (bg, bod) 10).2)]) rfl (fun H locs hw => ?_)
    refine lv_iconst (v := 3) hx hb dX6_actLooks_33 (by decide) ?_
    refine lv_iadd hx hb dX6_actLooks_34 ?_
    have h1 : tr1 (bg, bod) 51 = (bg, bod) := if_pos c_1
    exact re_i hf hr hlk hw (rfl) (by simp only [h1, pr_eta]) dX6_actLooks_35
  · have hb30 : bg < 30 := Nat.not_le.mp (fun h => c_1 ((nI_leI (a := 30) (by omega) (by omega)).mpr h))
    refine lv_aload_n hx hb dX6_actLooks_9 rfl (lv_at hl 1 rfl) ?_
    refine rg hf hk hw hinX0 1 rfl rfl 4 (by decide) w_1 rfl dX6_actLooks_10 ?_
    refine lv_aload_n hx hb dX6_actLooks_13 rfl (lv_at hl 1 rfl) ?_
    refine lv_dup hx hb dX6_actLooks_14 rfl ?_
    refine rg hf hk hw hinX0 1 rfl rfl 3 (by decide) w_0 rfl dX6_actLooks_15 ?_
    refine lv_dup_x1 hx hb dX6_actLooks_18 rfl rfl ?_
    refine lv_iconst (v := 1) hx hb dX6_actLooks_19 (by decide) ?_
    refine lv_iadd hx hb dX6_actLooks_20 ?_
    refine lv_tope (y := nI (bg + 1)) (nI_1 _) ?_
    refine rp hf hk hw hinX0 tyX0 tyX0_ok nmX0 1 rfl rfl 3 (by decide) w_0 rfl (rfl) rfl (Nat.le_of_ble_eq_true rfl) dX6_actLooks_21 (W' := [cob kr 6 [], cob oa 0 [.int an, .int ap, .int ab, .int (nI (bg + 1)), .ref lbd], cin g lbd 30 bod]) rfl (fun H locs hw => ?_)
    refine lv_bipush (v := 51) hx hb dX6_actLooks_24 (by decide) ?_
    refine rsj hf hk hw 2 rfl (j := bg) (vp_in_nI (by omega) (by omega)) (nI_clamp (by omega)) dX6_actLooks_26 (W' := [cob kr 6 [], cob oa 0 [.int an, .int ap, .int ab, .int (nI (bg + 1)), .ref lbd], cin g lbd 30 (upd bod bg 51)]) rfl (fun H locs hw => ?_)
    refine lv_aload_n hx hb dX6_actLooks_27 rfl (lv_at hl 0 rfl) ?_
    refine lv_aload_n hx hb dX6_actLooks_28 rfl (lv_at hl 1 rfl) ?_
    refine lv_iload_n hx hb dX6_actLooks_29 rfl (lv_at hl 2 rfl) ?_
    refine mcQ (x := ⟨"LightMan$Driver", "actLooks", "(LLightMan$Acting;I)I"⟩) (owner := "LightMan$Kind") hf hk hst hw (c_X4_actLooks l g kr oa lbd an ap ab (bg + 1) (upd bod bg 51) x (by first | omega | ((repeat apply tr1_le); dsimp only; omega))) rfl (fun w h => List.mem_append_right _ (List.mem_append_right _ (List.mem_append_right _ (List.mem_append_left _ h)))) rfl (List.mem_of_getElem? (i := 4) rfl) (List.mem_of_getElem? (i := 5) rfl) (List.mem_of_getElem? (i := 9) rfl) (List.mem_of_getElem? (i := 11) rfl) (List.mem_of_getElem? (i := 14) rfl) (List.mem_of_getElem? (i := 16) rfl) hdP_X4_actLooks rfl rfl ⟨Nat.le_of_ble_eq_true rfl, Nat.le_of_ble_eq_true rfl⟩ [1, 2] rfl rfl 0 rfl rfl rfl hl.1 rfl (Nat.le_of_ble_eq_true rfl) dX6_actLooks_30 ⟨Nat.zero_le _, Nat.zero_le _⟩ (W' := [cob kr 6 [], cob oa 0 [.int an, .int ap, .int ab, .int (nI (tr1 ((bg + 1), (upd bod bg 51)) 10).1), .ref lbd], cin g lbd 30 ((tr1 ((bg + 1), (upd bod bg 51)) 10).2)]) rfl (fun H locs hw => ?_)
    refine lv_iconst (v := 3) hx hb dX6_actLooks_33 (by decide) ?_
    refine lv_iadd hx hb dX6_actLooks_34 ?_
    have h1 : tr1 (bg, bod) 51 = (bg + 1, upd bod bg 51) := if_neg c_1
    exact re_i hf hr hlk hw (rfl) (by simp only [h1, pr_eta]) dX6_actLooks_35
theorem hdP_X5_actLooks : yX5_actLooks.name ≠ "<init>" ∧ (parseMethodDescriptor yX5_actLooks.desc).map (fun d => d.parameters.length) = some 2 := by decide +kernel
abbrev rmX9_actLooks_9 : Room := { frames := 2, cells := 0, slots := 0, locals := 44 }
set_option maxHeartbeats 4000000 in
set_option maxRecDepth 100000 in
theorem c_X9_actLooks_9 (l : Launch) (g : GG) (kr : Nat) (oa : Nat) (lbd : Nat) (an : Int32) (ap : Int32) (ab : Int32) (bg : Nat) (bod : Nat → Int32) (x : Int32) (hbg : bg ≤ 30) : mt l g yX9_actLooks wsX9_actLooks rmX9_actLooks_9 [.ref kr, .ref oa, .int x] [cob kr 9 [], cob oa 0 [.int an, .int ap, .int ab, .int (nI bg), .ref lbd], cin g lbd 30 bod] (some (.int ((((x * 3) - an) * 2) ^^^ 9))) [cob kr 9 [], cob oa 0 [.int an, .int ap, .int ab, .int (nI (tr1 (tr1 (tr1 (bg, bod) 40) 30) 10).1), .ref lbd], cin g lbd 30 ((tr1 (tr1 (tr1 (bg, bod) 40) 30) 10).2)] := by
  refine mt.of (cc := cX9_actLooks) (nL := 3) (ret := (some .int)) (own := RX9) (by decide +kernel) rfl rfl (show ([kr, oa, lbd] : List Nat) = [kr, oa, lbd] from rfl) (Nat.le_of_ble_eq_true rfl) (fun p e s m below meth c hf hr hlk _ hk hst hw ls hl => ?_)
  have hx := hf.1
  have hb := hf.2.1
  have hts := hf.2.2.2.2
  have hl : lv_has ls 3 [(0, .ref kr), (1, .ref oa), (2, .int x)] := hl
  have hinX0 : ∀ w ∈ u_ws RX0 TX0 5, w ∈ wsX9_actLooks := fun w h => List.mem_cons_of_mem _ (List.mem_append_right _ h)
  have w_0 : Cond.fieldLink RX9 25 "LightMan$Acting" "began" "I" ∈ wsX9_actLooks := List.mem_of_getElem? (i := 1) rfl
  have w_1 : Cond.fieldLink RX9 31 "LightMan$Acting" "bodies" "[I" ∈ wsX9_actLooks := List.mem_of_getElem? (i := 2) rfl
  refine lv_aload_n hx hb dX9_actLooks_0 rfl (lv_at hl 1 rfl) ?_
  refine rg hf hk hw hinX0 1 rfl rfl 3 (by decide) w_0 rfl dX9_actLooks_1 ?_
  refine lv_bipush (v := 30) hx hb dX9_actLooks_4 (by decide) ?_
  refine lv_icmp_ge (tgt := 27) hx hb dX9_actLooks_6 (by decide) (fun c_1 => ?_) (fun c_1 => ?_)
  · refine lv_aload_n hx hb dX9_actLooks_27 rfl (lv_at hl 0 rfl) ?_
    refine lv_aload_n hx hb dX9_actLooks_28 rfl (lv_at hl 1 rfl) ?_
    refine lv_iload_n hx hb dX9_actLooks_29 rfl (lv_at hl 2 rfl) ?_
    refine mcP hf hk hst hw (c_X5_actLooks l g kr 9 RX9 TX9 0 oa lbd an ap ab bg bod x rfl (by first | omega | ((repeat apply tr1_le); dsimp only; omega))) (va_cwSU 2 hts gX9_actLooks_X5_actLooks_s35 rfl rfl rfl hdP_X5_actLooks ⟨Nat.le_of_ble_eq_true rfl, Nat.le_of_ble_eq_true rfl⟩) [0, 1, 2] rfl rfl 0 rfl rfl rfl hl.1 rfl (Nat.le_of_ble_eq_true rfl) dX9_actLooks_30 ⟨Nat.zero_le _, Nat.zero_le _⟩ (W' := [cob kr 9 [], cob oa 0 [.int an, .int ap, .int ab, .int (nI (tr1 (tr1 (bg, bod) 30) 10).1), .ref lbd], cin g lbd 30 ((tr1 (tr1 (bg, bod) 30) 10).2)]) rfl (fun H locs hw => ?_)
    refine lv_bipush (v := 9) hx hb dX9_actLooks_33 (by decide) ?_
    refine lv_ixor hx hb dX9_actLooks_35 ?_
    have h1 : tr1 (bg, bod) 40 = (bg, bod) := if_pos c_1
    exact re_i hf hr hlk hw (rfl) (by simp only [h1, pr_eta]) dX9_actLooks_36
  · have hb30 : bg < 30 := Nat.not_le.mp (fun h => c_1 ((nI_leI (a := 30) (by omega) (by omega)).mpr h))
    refine lv_aload_n hx hb dX9_actLooks_9 rfl (lv_at hl 1 rfl) ?_
    refine rg hf hk hw hinX0 1 rfl rfl 4 (by decide) w_1 rfl dX9_actLooks_10 ?_
    refine lv_aload_n hx hb dX9_actLooks_13 rfl (lv_at hl 1 rfl) ?_
    refine lv_dup hx hb dX9_actLooks_14 rfl ?_
    refine rg hf hk hw hinX0 1 rfl rfl 3 (by decide) w_0 rfl dX9_actLooks_15 ?_
    refine lv_dup_x1 hx hb dX9_actLooks_18 rfl rfl ?_
    refine lv_iconst (v := 1) hx hb dX9_actLooks_19 (by decide) ?_
    refine lv_iadd hx hb dX9_actLooks_20 ?_
    refine lv_tope (y := nI (bg + 1)) (nI_1 _) ?_
    refine rp hf hk hw hinX0 tyX0 tyX0_ok nmX0 1 rfl rfl 3 (by decide) w_0 rfl (rfl) rfl (Nat.le_of_ble_eq_true rfl) dX9_actLooks_21 (W' := [cob kr 9 [], cob oa 0 [.int an, .int ap, .int ab, .int (nI (bg + 1)), .ref lbd], cin g lbd 30 bod]) rfl (fun H locs hw => ?_)
    refine lv_bipush (v := 40) hx hb dX9_actLooks_24 (by decide) ?_
    refine rsj hf hk hw 2 rfl (j := bg) (vp_in_nI (by omega) (by omega)) (nI_clamp (by omega)) dX9_actLooks_26 (W' := [cob kr 9 [], cob oa 0 [.int an, .int ap, .int ab, .int (nI (bg + 1)), .ref lbd], cin g lbd 30 (upd bod bg 40)]) rfl (fun H locs hw => ?_)
    refine lv_aload_n hx hb dX9_actLooks_27 rfl (lv_at hl 0 rfl) ?_
    refine lv_aload_n hx hb dX9_actLooks_28 rfl (lv_at hl 1 rfl) ?_
    refine lv_iload_n hx hb dX9_actLooks_29 rfl (lv_at hl 2 rfl) ?_
    refine mcP hf hk hst hw (c_X5_actLooks l g kr 9 RX9 TX9 0 oa lbd an ap ab (bg + 1) (upd bod bg 40) x rfl (by first | omega | ((repeat apply tr1_le); dsimp only; omega))) (va_cwSU 2 hts gX9_actLooks_X5_actLooks_s35 rfl rfl rfl hdP_X5_actLooks ⟨Nat.le_of_ble_eq_true rfl, Nat.le_of_ble_eq_true rfl⟩) [0, 1, 2] rfl rfl 0 rfl rfl rfl hl.1 rfl (Nat.le_of_ble_eq_true rfl) dX9_actLooks_30 ⟨Nat.zero_le _, Nat.zero_le _⟩ (W' := [cob kr 9 [], cob oa 0 [.int an, .int ap, .int ab, .int (nI (tr1 (tr1 ((bg + 1), (upd bod bg 40)) 30) 10).1), .ref lbd], cin g lbd 30 ((tr1 (tr1 ((bg + 1), (upd bod bg 40)) 30) 10).2)]) rfl (fun H locs hw => ?_)
    refine lv_bipush (v := 9) hx hb dX9_actLooks_33 (by decide) ?_
    refine lv_ixor hx hb dX9_actLooks_35 ?_
    have h1 : tr1 (bg, bod) 40 = (bg + 1, upd bod bg 40) := if_neg c_1
    exact re_i hf hr hlk hw (rfl) (by simp only [h1, pr_eta]) dX9_actLooks_36
theorem hdV_X4_actLooks : yX4_actLooks.cls = RX4 ∧ yX4_actLooks.cls ≠ "java/lang/invoke/MethodHandle" ∧ yX4_actLooks.cls ≠ "java/lang/invoke/VarHandle" ∧ (parseMethodDescriptor yX4_actLooks.desc).map (fun d => d.parameters.length) = some 2 := by decide +kernel
abbrev rmX4_actWalks_4 : Room := { frames := 1, cells := 0, slots := 0, locals := 22 }
set_option maxHeartbeats 4000000 in
set_option maxRecDepth 100000 in
theorem c_X4_actWalks_4 (l : Launch) (g : GG) (kr : Nat) (oa : Nat) (lbd : Nat) (an : Int32) (ap : Int32) (ab : Int32) (bg : Nat) (bod : Nat → Int32) (x : Int32) (hbg : bg ≤ 30) : mt l g yX4_actWalks wsX4_actWalks rmX4_actWalks_4 [.ref kr, .ref oa, .int x] [cob kr 4 [], cob oa 0 [.int an, .int ap, .int ab, .int (nI bg), .ref lbd], cin g lbd 30 bod] (some (.int (((x * 3) - an) + (ap * 6)))) [cob kr 4 [], cob oa 0 [.int an, .int ap, .int ab, .int (nI (tr1 (tr1 (bg, bod) 11) 10).1), .ref lbd], cin g lbd 30 ((tr1 (tr1 (bg, bod) 11) 10).2)] := by
  refine mt.of (cc := cX4_actWalks) (nL := 3) (ret := (some .int)) (own := RX4) (by decide +kernel) rfl rfl (show ([kr, oa, lbd] : List Nat) = [kr, oa, lbd] from rfl) (Nat.le_of_ble_eq_true rfl) (fun p e s m below meth c hf hr hlk _ hk hst hw ls hl => ?_)
  have hx := hf.1
  have hb := hf.2.1
  have hts := hf.2.2.2.2
  have hl : lv_has ls 3 [(0, .ref kr), (1, .ref oa), (2, .int x)] := hl
  have hinX0 : ∀ w ∈ u_ws RX0 TX0 5, w ∈ wsX4_actWalks := fun w h => List.mem_cons_of_mem _ (List.mem_append_right _ h)
  have w_0 : Cond.fieldLink RX4 9 "LightMan$Acting" "began" "I" ∈ wsX4_actWalks := List.mem_of_getElem? (i := 1) rfl
  have w_1 : Cond.fieldLink RX4 28 "LightMan$Acting" "place" "I" ∈ wsX4_actWalks := List.mem_of_getElem? (i := 3) rfl
  have w_2 : Cond.fieldLink RX4 15 "LightMan$Acting" "bodies" "[I" ∈ wsX4_actWalks := List.mem_of_getElem? (i := 2) rfl
  refine lv_aload_n hx hb dX4_actWalks_0 rfl (lv_at hl 1 rfl) ?_
  refine rg hf hk hw hinX0 1 rfl rfl 3 (by decide) w_0 rfl dX4_actWalks_1 ?_
  refine lv_bipush (v := 30) hx hb dX4_actWalks_4 (by decide) ?_
  refine lv_icmp_ge (tgt := 27) hx hb dX4_actWalks_6 (by decide) (fun c_1 => ?_) (fun c_1 => ?_)
  · refine lv_aload_n hx hb dX4_actWalks_27 rfl (lv_at hl 0 rfl) ?_
    refine lv_aload_n hx hb dX4_actWalks_28 rfl (lv_at hl 1 rfl) ?_
    refine lv_iload_n hx hb dX4_actWalks_29 rfl (lv_at hl 2 rfl) ?_
    refine mcV hf hk hst hw (c_X4_actLooks l g kr oa lbd an ap ab bg bod x (by first | omega | ((repeat apply tr1_le); dsimp only; omega))) (cwV 2 hts gX4_actWalks_X4_actLooks rfl rfl rfl hdV_X4_actLooks ⟨Nat.le_of_ble_eq_true rfl, Nat.le_of_ble_eq_true rfl⟩) [1, 2] rfl rfl 0 rfl rfl rfl hl.1 rfl (Nat.le_of_ble_eq_true rfl) dX4_actWalks_30 ⟨Nat.zero_le _, Nat.zero_le _⟩ (W' := [cob kr 4 [], cob oa 0 [.int an, .int ap, .int ab, .int (nI (tr1 (bg, bod) 10).1), .ref lbd], cin g lbd 30 ((tr1 (bg, bod) 10).2)]) rfl (fun H locs hw => ?_)
    refine lv_aload_n hx hb dX4_actWalks_33 rfl (lv_at hl 1 rfl) ?_
    refine rg hf hk hw hinX0 1 rfl rfl 1 (by decide) w_1 rfl dX4_actWalks_34 ?_
    refine lv_bipush (v := 6) hx hb dX4_actWalks_37 (by decide) ?_
    refine lv_imul hx hb dX4_actWalks_39 ?_
    refine lv_iadd hx hb dX4_actWalks_40 ?_
    have h1 : tr1 (bg, bod) 11 = (bg, bod) := if_pos c_1
    exact re_i hf hr hlk hw (rfl) (by simp only [h1, pr_eta]) dX4_actWalks_41
  · have hb30 : bg < 30 := Nat.not_le.mp (fun h => c_1 ((nI_leI (a := 30) (by omega) (by omega)).mpr h))
    refine lv_aload_n hx hb dX4_actWalks_9 rfl (lv_at hl 1 rfl) ?_
    refine rg hf hk hw hinX0 1 rfl rfl 4 (by decide) w_2 rfl dX4_actWalks_10 ?_
    refine lv_aload_n hx hb dX4_actWalks_13 rfl (lv_at hl 1 rfl) ?_
    refine lv_dup hx hb dX4_actWalks_14 rfl ?_
    refine rg hf hk hw hinX0 1 rfl rfl 3 (by decide) w_0 rfl dX4_actWalks_15 ?_
    refine lv_dup_x1 hx hb dX4_actWalks_18 rfl rfl ?_
    refine lv_iconst (v := 1) hx hb dX4_actWalks_19 (by decide) ?_
    refine lv_iadd hx hb dX4_actWalks_20 ?_
    refine lv_tope (y := nI (bg + 1)) (nI_1 _) ?_
    refine rp hf hk hw hinX0 tyX0 tyX0_ok nmX0 1 rfl rfl 3 (by decide) w_0 rfl (rfl) rfl (Nat.le_of_ble_eq_true rfl) dX4_actWalks_21 (W' := [cob kr 4 [], cob oa 0 [.int an, .int ap, .int ab, .int (nI (bg + 1)), .ref lbd], cin g lbd 30 bod]) rfl (fun H locs hw => ?_)
    refine lv_bipush (v := 11) hx hb dX4_actWalks_24 (by decide) ?_
    refine rsj hf hk hw 2 rfl (j := bg) (vp_in_nI (by omega) (by omega)) (nI_clamp (by omega)) dX4_actWalks_26 (W' := [cob kr 4 [], cob oa 0 [.int an, .int ap, .int ab, .int (nI (bg + 1)), .ref lbd], cin g lbd 30 (upd bod bg 11)]) rfl (fun H locs hw => ?_)
    refine lv_aload_n hx hb dX4_actWalks_27 rfl (lv_at hl 0 rfl) ?_
    refine lv_aload_n hx hb dX4_actWalks_28 rfl (lv_at hl 1 rfl) ?_
    refine lv_iload_n hx hb dX4_actWalks_29 rfl (lv_at hl 2 rfl) ?_
    refine mcV hf hk hst hw (c_X4_actLooks l g kr oa lbd an ap ab (bg + 1) (upd bod bg 11) x (by first | omega | ((repeat apply tr1_le); dsimp only; omega))) (cwV 2 hts gX4_actWalks_X4_actLooks rfl rfl rfl hdV_X4_actLooks ⟨Nat.le_of_ble_eq_true rfl, Nat.le_of_ble_eq_true rfl⟩) [1, 2] rfl rfl 0 rfl rfl rfl hl.1 rfl (Nat.le_of_ble_eq_true rfl) dX4_actWalks_30 ⟨Nat.zero_le _, Nat.zero_le _⟩ (W' := [cob kr 4 [], cob oa 0 [.int an, .int ap, .int ab, .int (nI (tr1 ((bg + 1), (upd bod bg 11)) 10).1), .ref lbd], cin g lbd 30 ((tr1 ((bg + 1), (upd bod bg 11)) 10).2)]) rfl (fun H locs hw => ?_)
    refine lv_aload_n hx hb dX4_actWalks_33 rfl (lv_at hl 1 rfl) ?_
    refine rg hf hk hw hinX0 1 rfl rfl 1 (by decide) w_1 rfl dX4_actWalks_34 ?_
    refine lv_bipush (v := 6) hx hb dX4_actWalks_37 (by decide) ?_
    refine lv_imul hx hb dX4_actWalks_39 ?_
    refine lv_iadd hx hb dX4_actWalks_40 ?_
    have h1 : tr1 (bg, bod) 11 = (bg + 1, upd bod bg 11) := if_neg c_1
    exact re_i hf hr hlk hw (rfl) (by simp only [h1, pr_eta]) dX4_actWalks_41
theorem hdU_LightMan_Kind_actLooks : "LightMan$Kind" ≠ "java/lang/invoke/MethodHandle" ∧ "LightMan$Kind" ≠ "java/lang/invoke/VarHandle" ∧ (parseMethodDescriptor (⟨"LightMan$Kind", "actLooks", "(LLightMan$Acting;I)I"⟩ : MethodName).desc).map (fun d => d.parameters.length) = some 2 := by decide +kernel
abbrev rmX4_actWalks_2 : Room := { frames := 1, cells := 0, slots := 0, locals := 22 }
set_option maxHeartbeats 4000000 in
set_option maxRecDepth 100000 in
theorem c_X4_actWalks_2 (l : Launch) (g : GG) (kr : Nat) (oa : Nat) (lbd : Nat) (an : Int32) (ap : Int32) (ab : Int32) (bg : Nat) (bod : Nat → Int32) (x : Int32) (hbg : bg ≤ 30) : mt l g yX4_actWalks wsX4_actWalks rmX4_actWalks_2 [.ref kr, .ref oa, .int x] [cob kr 2 [], cob oa 0 [.int an, .int ap, .int ab, .int (nI bg), .ref lbd], cin g lbd 30 bod] (some (.int (((x * 3) - an) + (ap * 6)))) [cob kr 2 [], cob oa 0 [.int an, .int ap, .int ab, .int (nI (tr1 (tr1 (bg, bod) 11) 10).1), .ref lbd], cin g lbd 30 ((tr1 (tr1 (bg, bod) 11) 10).2)] := by
  refine mt.of (cc := cX4_actWalks) (nL := 3) (ret := (some .int)) (own := RX4) (by decide +kernel) rfl rfl (show ([kr, oa, lbd] : List Nat) = [kr, oa, lbd] from rfl) (Nat.le_of_ble_eq_true rfl) (fun p e s m below meth c hf hr hlk _ hk hst hw ls hl => ?_)
  have hx := hf.1
  have hb := hf.2.1
  have hts := hf.2.2.2.2
  have hl : lv_has ls 3 [(0, .ref kr), (1, .ref oa), (2, .int x)] := hl
  have hinX0 : ∀ w ∈ u_ws RX0 TX0 5, w ∈ wsX4_actWalks := fun w h => List.mem_cons_of_mem _ (List.mem_append_right _ h)
  have w_0 : Cond.fieldLink RX4 9 "LightMan$Acting" "began" "I" ∈ wsX4_actWalks := List.mem_of_getElem? (i := 1) rfl
  have w_1 : Cond.fieldLink RX4 28 "LightMan$Acting" "place" "I" ∈ wsX4_actWalks := List.mem_of_getElem? (i := 3) rfl
  have w_2 : Cond.fieldLink RX4 15 "LightMan$Acting" "bodies" "[I" ∈ wsX4_actWalks := List.mem_of_getElem? (i := 2) rfl
  refine lv_aload_n hx hb dX4_actWalks_0 rfl (lv_at hl 1 rfl) ?_
  refine rg hf hk hw hinX0 1 rfl rfl 3 (by decide) w_0 rfl dX4_actWalks_1 ?_
  refine lv_bipush (v := 30) hx hb dX4_actWalks_4 (by decide) ?_
  refine lv_icmp_ge (tgt := 27) hx hb dX4_actWalks_6 (by decide) (fun c_1 => ?_) (fun c_1 => ?_)
  · refine lv_aload_n hx hb dX4_actWalks_27 rfl (lv_at hl 0 rfl) ?_
    refine lv_aload_n hx hb dX4_actWalks_28 rfl (lv_at hl 1 rfl) ?_
    refine lv_iload_n hx hb dX4_actWalks_29 rfl (lv_at hl 2 rfl) ?_
    refine mcU hf hk hst hw (c_X4_actLooks l g kr oa lbd an ap ab bg bod x (by first | omega | ((repeat apply tr1_le); dsimp only; omega))) (va_cwU 2 hts gX4_actWalks_X4_actLooks_u22X2 rfl rfl rfl rfl hdU_LightMan_Kind_actLooks ⟨Nat.le_of_ble_eq_true rfl, Nat.le_of_ble_eq_true rfl⟩) [1, 2] rfl rfl 0 rfl rfl rfl hl.1 rfl (Nat.le_of_ble_eq_true rfl) dX4_actWalks_30 ⟨Nat.zero_le _, Nat.zero_le _⟩ (W' := [cob kr 2 [], cob oa 0 [.int an, .int ap, .int ab, .int (nI (tr1 (bg, bod) 10).1), .ref lbd], cin g lbd 30 ((tr1 (bg, bod) 10).2)]) rfl (fun H locs hw => ?_)
    refine lv_aload_n hx hb dX4_actWalks_33 rfl (lv_at hl 1 rfl) ?_
    refine rg hf hk hw hinX0 1 rfl rfl 1 (by decide) w_1 rfl dX4_actWalks_34 ?_
    refine lv_bipush (v := 6) hx hb dX4_actWalks_37 (by decide) ?_
    refine lv_imul hx hb dX4_actWalks_39 ?_
    refine lv_iadd hx hb dX4_actWalks_40 ?_
    have h1 : tr1 (bg, bod) 11 = (bg, bod) := if_pos c_1
    exact re_i hf hr hlk hw (rfl) (by simp only [h1, pr_eta]) dX4_actWalks_41
  · have hb30 : bg < 30 := Nat.not_le.mp (fun h => c_1 ((nI_leI (a := 30) (by omega) (by omega)).mpr h))
    refine lv_aload_n hx hb dX4_actWalks_9 rfl (lv_at hl 1 rfl) ?_
    refine rg hf hk hw hinX0 1 rfl rfl 4 (by decide) w_2 rfl dX4_actWalks_10 ?_
    refine lv_aload_n hx hb dX4_actWalks_13 rfl (lv_at hl 1 rfl) ?_
    refine lv_dup hx hb dX4_actWalks_14 rfl ?_
    refine rg hf hk hw hinX0 1 rfl rfl 3 (by decide) w_0 rfl dX4_actWalks_15 ?_
    refine lv_dup_x1 hx hb dX4_actWalks_18 rfl rfl ?_
    refine lv_iconst (v := 1) hx hb dX4_actWalks_19 (by decide) ?_
    refine lv_iadd hx hb dX4_actWalks_20 ?_
    refine lv_tope (y := nI (bg + 1)) (nI_1 _) ?_
    refine rp hf hk hw hinX0 tyX0 tyX0_ok nmX0 1 rfl rfl 3 (by decide) w_0 rfl (rfl) rfl (Nat.le_of_ble_eq_true rfl) dX4_actWalks_21 (W' := [cob kr 2 [], cob oa 0 [.int an, .int ap, .int ab, .int (nI (bg + 1)), .ref lbd], cin g lbd 30 bod]) rfl (fun H locs hw => ?_)
    refine lv_bipush (v := 11) hx hb dX4_actWalks_24 (by decide) ?_
    refine rsj hf hk hw 2 rfl (j := bg) (vp_in_nI (by omega) (by omega)) (nI_clamp (by omega)) dX4_actWalks_26 (W' := [cob kr 2 [], cob oa 0 [.int an, .int ap, .int ab, .int (nI (bg + 1)), .ref lbd], cin g lbd 30 (upd bod bg 11)]) rfl (fun H locs hw => ?_)
    refine lv_aload_n hx hb dX4_actWalks_27 rfl (lv_at hl 0 rfl) ?_
    refine lv_aload_n hx hb dX4_actWalks_28 rfl (lv_at hl 1 rfl) ?_
    refine lv_iload_n hx hb dX4_actWalks_29 rfl (lv_at hl 2 rfl) ?_
    refine mcU hf hk hst hw (c_X4_actLooks l g kr oa lbd an ap ab (bg + 1) (upd bod bg 11) x (by first | omega | ((repeat apply tr1_le); dsimp only; omega))) (va_cwU 2 hts gX4_actWalks_X4_actLooks_u22X2 rfl rfl rfl rfl hdU_LightMan_Kind_actLooks ⟨Nat.le_of_ble_eq_true rfl, Nat.le_of_ble_eq_true rfl⟩) [1, 2] rfl rfl 0 rfl rfl rfl hl.1 rfl (Nat.le_of_ble_eq_true rfl) dX4_actWalks_30 ⟨Nat.zero_le _, Nat.zero_le _⟩ (W' := [cob kr 2 [], cob oa 0 [.int an, .int ap, .int ab, .int (nI (tr1 ((bg + 1), (upd bod bg 11)) 10).1), .ref lbd], cin g lbd 30 ((tr1 ((bg + 1), (upd bod bg 11)) 10).2)]) rfl (fun H locs hw => ?_)
    refine lv_aload_n hx hb dX4_actWalks_33 rfl (lv_at hl 1 rfl) ?_
    refine rg hf hk hw hinX0 1 rfl rfl 1 (by decide) w_1 rfl dX4_actWalks_34 ?_
    refine lv_bipush (v := 6) hx hb dX4_actWalks_37 (by decide) ?_
    refine lv_imul hx hb dX4_actWalks_39 ?_
    refine lv_iadd hx hb dX4_actWalks_40 ?_
    have h1 : tr1 (bg, bod) 11 = (bg + 1, upd bod bg 11) := if_neg c_1
    exact re_i hf hr hlk hw (rfl) (by simp only [h1, pr_eta]) dX4_actWalks_41
abbrev rmX4_actWalks_6 : Room := { frames := 2, cells := 0, slots := 0, locals := 44 }
set_option maxHeartbeats 4000000 in
set_option maxRecDepth 100000 in
theorem c_X4_actWalks_6 (l : Launch) (g : GG) (kr : Nat) (oa : Nat) (lbd : Nat) (an : Int32) (ap : Int32) (ab : Int32) (bg : Nat) (bod : Nat → Int32) (x : Int32) (hbg : bg ≤ 30) : mt l g yX4_actWalks wsX4_actWalks rmX4_actWalks_6 [.ref kr, .ref oa, .int x] [cob kr 6 [], cob oa 0 [.int an, .int ap, .int ab, .int (nI bg), .ref lbd], cin g lbd 30 bod] (some (.int ((((x * 3) - an) + 3) + (ap * 6)))) [cob kr 6 [], cob oa 0 [.int an, .int ap, .int ab, .int (nI (tr1 (tr1 (tr1 (bg, bod) 11) 51) 10).1), .ref lbd], cin g lbd 30 ((tr1 (tr1 (tr1 (bg, bod) 11) 51) 10).2)] := by
  refine mt.of (cc := cX4_actWalks) (nL := 3) (ret := (some .int)) (own := RX4) (by decide +kernel) rfl rfl (show ([kr, oa, lbd] : List Nat) = [kr, oa, lbd] from rfl) (Nat.le_of_ble_eq_true rfl) (fun p e s m below meth c hf hr hlk _ hk hst hw ls hl => ?_)
  have hx := hf.1
  have hb := hf.2.1
  have hts := hf.2.2.2.2
  have hl : lv_has ls 3 [(0, .ref kr), (1, .ref oa), (2, .int x)] := hl
  have hinX0 : ∀ w ∈ u_ws RX0 TX0 5, w ∈ wsX4_actWalks := fun w h => List.mem_cons_of_mem _ (List.mem_append_right _ h)
  have w_0 : Cond.fieldLink RX4 9 "LightMan$Acting" "began" "I" ∈ wsX4_actWalks := List.mem_of_getElem? (i := 1) rfl
  have w_1 : Cond.code yX4_actLooks cX4_actLooks 3 (some .int) ∈ wsX4_actWalks := List.mem_of_getElem? (i := 9) rfl
  have w_2 : Cond.fieldLink RX4 28 "LightMan$Acting" "place" "I" ∈ wsX4_actWalks := List.mem_of_getElem? (i := 3) rfl
  have w_3 : Cond.fieldLink RX4 15 "LightMan$Acting" "bodies" "[I" ∈ wsX4_actWalks := List.mem_of_getElem? (i := 2) rfl
  refine lv_aload_n hx hb dX4_actWalks_0 rfl (lv_at hl 1 rfl) ?_
  refine rg hf hk hw hinX0 1 rfl rfl 3 (by decide) w_0 rfl dX4_actWalks_1 ?_
  refine lv_bipush (v := 30) hx hb dX4_actWalks_4 (by decide) ?_
  refine lv_icmp_ge (tgt := 27) hx hb dX4_actWalks_6 (by decide) (fun c_1 => ?_) (fun c_1 => ?_)
  · refine lv_aload_n hx hb dX4_actWalks_27 rfl (lv_at hl 0 rfl) ?_
    refine lv_aload_n hx hb dX4_actWalks_28 rfl (lv_at hl 1 rfl) ?_
    refine lv_iload_n hx hb dX4_actWalks_29 rfl (lv_at hl 2 rfl) ?_
    refine mcU hf hk hst hw (c_X6_actLooks_6 l g kr oa lbd an ap ab bg bod x (by first | omega | ((repeat apply tr1_le); dsimp only; omega))) (va_cwO 2 hts gX4_actWalks_X6_actLooks_u22X6 rfl rfl rfl w_1 hdU_LightMan_Kind_actLooks ⟨Nat.le_of_ble_eq_true rfl, Nat.le_of_ble_eq_true rfl⟩) [0, 1, 2] rfl rfl 0 rfl rfl rfl hl.1 rfl (Nat.le_of_ble_eq_true rfl) dX4_actWalks_30 ⟨Nat.zero_le _, Nat.zero_le _⟩ (W' := [cob kr 6 [], cob oa 0 [.int an, .int ap, .int ab, .int (nI (tr1 (tr1 (bg, bod) 51) 10).1), .ref lbd], cin g lbd 30 ((tr1 (tr1 (bg, bod) 51) 10).2)]) rfl (fun H locs hw => ?_)
    refine lv_aload_n hx hb dX4_actWalks_33 rfl (lv_at hl 1 rfl) ?_
    refine rg hf hk hw hinX0 1 rfl rfl 1 (by decide) w_2 rfl dX4_actWalks_34 ?_
    refine lv_bipush (v := 6) hx hb dX4_actWalks_37 (by decide) ?_
    refine lv_imul hx hb dX4_actWalks_39 ?_
    refine lv_iadd hx hb dX4_actWalks_40 ?_
    have h1 : tr1 (bg, bod) 11 = (bg, bod) := if_pos c_1
    exact re_i hf hr hlk hw (rfl) (by simp only [h1, pr_eta]) dX4_actWalks_41
  · have hb30 : bg < 30 := Nat.not_le.mp (fun h => c_1 ((nI_leI (a := 30) (by omega) (by omega)).mpr h))
    refine lv_aload_n hx hb dX4_actWalks_9 rfl (lv_at hl 1 rfl) ?_
    refine rg hf hk hw hinX0 1 rfl rfl 4 (by decide) w_3 rfl dX4_actWalks_10 ?_
    refine lv_aload_n hx hb dX4_actWalks_13 rfl (lv_at hl 1 rfl) ?_
    refine lv_dup hx hb dX4_actWalks_14 rfl ?_
    refine rg hf hk hw hinX0 1 rfl rfl 3 (by decide) w_0 rfl dX4_actWalks_15 ?_
    refine lv_dup_x1 hx hb dX4_actWalks_18 rfl rfl ?_
    refine lv_iconst (v := 1) hx hb dX4_actWalks_19 (by decide) ?_
    refine lv_iadd hx hb dX4_actWalks_20 ?_
    refine lv_tope (y := nI (bg + 1)) (nI_1 _) ?_
    refine rp hf hk hw hinX0 tyX0 tyX0_ok nmX0 1 rfl rfl 3 (by decide) w_0 rfl (rfl) rfl (Nat.le_of_ble_eq_true rfl) dX4_actWalks_21 (W' := [cob kr 6 [], cob oa 0 [.int an, .int ap, .int ab, .int (nI (bg + 1)), .ref lbd], cin g lbd 30 bod]) rfl (fun H locs hw => ?_)
    refine lv_bipush (v := 11) hx hb dX4_actWalks_24 (by decide) ?_
    refine rsj hf hk hw 2 rfl (j := bg) (vp_in_nI (by omega) (by omega)) (nI_clamp (by omega)) dX4_actWalks_26 (W' := [cob kr 6 [], cob oa 0 [.int an, .int ap, .int ab, .int (nI (bg + 1)), .ref lbd], cin g lbd 30 (upd bod bg 11)]) rfl (fun H locs hw => ?_)
    refine lv_aload_n hx hb dX4_actWalks_27 rfl (lv_at hl 0 rfl) ?_
    refine lv_aload_n hx hb dX4_actWalks_28 rfl (lv_at hl 1 rfl) ?_
    refine lv_iload_n hx hb dX4_actWalks_29 rfl (lv_at hl 2 rfl) ?_
    refine mcU hf hk hst hw (c_X6_actLooks_6 l g kr oa lbd an ap ab (bg + 1) (upd bod bg 11) x (by first | omega | ((repeat apply tr1_le); dsimp only; omega))) (va_cwO 2 hts gX4_actWalks_X6_actLooks_u22X6 rfl rfl rfl w_1 hdU_LightMan_Kind_actLooks ⟨Nat.le_of_ble_eq_true rfl, Nat.le_of_ble_eq_true rfl⟩) [0, 1, 2] rfl rfl 0 rfl rfl rfl hl.1 rfl (Nat.le_of_ble_eq_true rfl) dX4_actWalks_30 ⟨Nat.zero_le _, Nat.zero_le _⟩ (W' := [cob kr 6 [], cob oa 0 [.int an, .int ap, .int ab, .int (nI (tr1 (tr1 ((bg + 1), (upd bod bg 11)) 51) 10).1), .ref lbd], cin g lbd 30 ((tr1 (tr1 ((bg + 1), (upd bod bg 11)) 51) 10).2)]) rfl (fun H locs hw => ?_)
    refine lv_aload_n hx hb dX4_actWalks_33 rfl (lv_at hl 1 rfl) ?_
    refine rg hf hk hw hinX0 1 rfl rfl 1 (by decide) w_2 rfl dX4_actWalks_34 ?_
    refine lv_bipush (v := 6) hx hb dX4_actWalks_37 (by decide) ?_
    refine lv_imul hx hb dX4_actWalks_39 ?_
    refine lv_iadd hx hb dX4_actWalks_40 ?_
    have h1 : tr1 (bg, bod) 11 = (bg + 1, upd bod bg 11) := if_neg c_1
    exact re_i hf hr hlk hw (rfl) (by simp only [h1, pr_eta]) dX4_actWalks_41
abbrev rmX4_actWalks_5 : Room := { frames := 2, cells := 0, slots := 0, locals := 44 }
set_option maxHeartbeats 4000000 in
set_option maxRecDepth 100000 in
theorem c_X4_actWalks_5 (l : Launch) (g : GG) (kr : Nat) (oa : Nat) (lbd : Nat) (an : Int32) (ap : Int32) (ab : Int32) (bg : Nat) (bod : Nat → Int32) (x : Int32) (hbg : bg ≤ 30) : mt l g yX4_actWalks wsX4_actWalks rmX4_actWalks_5 [.ref kr, .ref oa, .int x] [cob kr 5 [], cob oa 0 [.int an, .int ap, .int ab, .int (nI bg), .ref lbd], cin g lbd 30 bod] (some (.int ((((x * 3) - an) * 2) + (ap * 6)))) [cob kr 5 [], cob oa 0 [.int an, .int ap, .int ab, .int (nI (tr1 (tr1 (tr1 (bg, bod) 11) 30) 10).1), .ref lbd], cin g lbd 30 ((tr1 (tr1 (tr1 (bg, bod) 11) 30) 10).2)] := by
  refine mt.of (cc := cX4_actWalks) (nL := 3) (ret := (some .int)) (own := RX4) (by decide +kernel) rfl rfl (show ([kr, oa, lbd] : List Nat) = [kr, oa, lbd] from rfl) (Nat.le_of_ble_eq_true rfl) (fun p e s m below meth c hf hr hlk _ hk hst hw ls hl => ?_)
  have hx := hf.1
  have hb := hf.2.1
  have hts := hf.2.2.2.2
  have hl : lv_has ls 3 [(0, .ref kr), (1, .ref oa), (2, .int x)] := hl
  have hinX0 : ∀ w ∈ u_ws RX0 TX0 5, w ∈ wsX4_actWalks := fun w h => List.mem_cons_of_mem _ (List.mem_append_right _ h)
  have w_0 : Cond.fieldLink RX4 9 "LightMan$Acting" "began" "I" ∈ wsX4_actWalks := List.mem_of_getElem? (i := 1) rfl
  have w_1 : Cond.code yX4_actLooks cX4_actLooks 3 (some .int) ∈ wsX4_actWalks := List.mem_of_getElem? (i := 9) rfl
  have w_2 : Cond.fieldLink RX4 28 "LightMan$Acting" "place" "I" ∈ wsX4_actWalks := List.mem_of_getElem? (i := 3) rfl
  have w_3 : Cond.fieldLink RX4 15 "LightMan$Acting" "bodies" "[I" ∈ wsX4_actWalks := List.mem_of_getElem? (i := 2) rfl
  refine lv_aload_n hx hb dX4_actWalks_0 rfl (lv_at hl 1 rfl) ?_
  refine rg hf hk hw hinX0 1 rfl rfl 3 (by decide) w_0 rfl dX4_actWalks_1 ?_
  refine lv_bipush (v := 30) hx hb dX4_actWalks_4 (by decide) ?_
  refine lv_icmp_ge (tgt := 27) hx hb dX4_actWalks_6 (by decide) (fun c_1 => ?_) (fun c_1 => ?_)
  · refine lv_aload_n hx hb dX4_actWalks_27 rfl (lv_at hl 0 rfl) ?_
    refine lv_aload_n hx hb dX4_actWalks_28 rfl (lv_at hl 1 rfl) ?_
    refine lv_iload_n hx hb dX4_actWalks_29 rfl (lv_at hl 2 rfl) ?_
    refine mcU hf hk hst hw (c_X5_actLooks l g kr 5 RX5 TX5 0 oa lbd an ap ab bg bod x rfl (by first | omega | ((repeat apply tr1_le); dsimp only; omega))) (va_cwO 2 hts gX4_actWalks_X5_actLooks_u22X5 rfl rfl rfl w_1 hdU_LightMan_Kind_actLooks ⟨Nat.le_of_ble_eq_true rfl, Nat.le_of_ble_eq_true rfl⟩) [0, 1, 2] rfl rfl 0 rfl rfl rfl hl.1 rfl (Nat.le_of_ble_eq_true rfl) dX4_actWalks_30 ⟨Nat.zero_le _, Nat.zero_le _⟩ (W' := [cob kr 5 [], cob oa 0 [.int an, .int ap, .int ab, .int (nI (tr1 (tr1 (bg, bod) 30) 10).1), .ref lbd], cin g lbd 30 ((tr1 (tr1 (bg, bod) 30) 10).2)]) rfl (fun H locs hw => ?_)
    refine lv_aload_n hx hb dX4_actWalks_33 rfl (lv_at hl 1 rfl) ?_
    refine rg hf hk hw hinX0 1 rfl rfl 1 (by decide) w_2 rfl dX4_actWalks_34 ?_
    refine lv_bipush (v := 6) hx hb dX4_actWalks_37 (by decide) ?_
    refine lv_imul hx hb dX4_actWalks_39 ?_
    refine lv_iadd hx hb dX4_actWalks_40 ?_
    have h1 : tr1 (bg, bod) 11 = (bg, bod) := if_pos c_1
    exact re_i hf hr hlk hw (rfl) (by simp only [h1, pr_eta]) dX4_actWalks_41
  · have hb30 : bg < 30 := Nat.not_le.mp (fun h => c_1 ((nI_leI (a := 30) (by omega) (by omega)).mpr h))
    refine lv_aload_n hx hb dX4_actWalks_9 rfl (lv_at hl 1 rfl) ?_
    refine rg hf hk hw hinX0 1 rfl rfl 4 (by decide) w_3 rfl dX4_actWalks_10 ?_
    refine lv_aload_n hx hb dX4_actWalks_13 rfl (lv_at hl 1 rfl) ?_
    refine lv_dup hx hb dX4_actWalks_14 rfl ?_
    refine rg hf hk hw hinX0 1 rfl rfl 3 (by decide) w_0 rfl dX4_actWalks_15 ?_
    refine lv_dup_x1 hx hb dX4_actWalks_18 rfl rfl ?_
    refine lv_iconst (v := 1) hx hb dX4_actWalks_19 (by decide) ?_
    refine lv_iadd hx hb dX4_actWalks_20 ?_
    refine lv_tope (y := nI (bg + 1)) (nI_1 _) ?_
    refine rp hf hk hw hinX0 tyX0 tyX0_ok nmX0 1 rfl rfl 3 (by decide) w_0 rfl (rfl) rfl (Nat.le_of_ble_eq_true rfl) dX4_actWalks_21 (W' := [cob kr 5 [], cob oa 0 [.int an, .int ap, .int ab, .int (nI (bg + 1)), .ref lbd], cin g lbd 30 bod]) rfl (fun H locs hw => ?_)
    refine lv_bipush (v := 11) hx hb dX4_actWalks_24 (by decide) ?_
    refine rsj hf hk hw 2 rfl (j := bg) (vp_in_nI (by omega) (by omega)) (nI_clamp (by omega)) dX4_actWalks_26 (W' := [cob kr 5 [], cob oa 0 [.int an, .int ap, .int ab, .int (nI (bg + 1)), .ref lbd], cin g lbd 30 (upd bod bg 11)]) rfl (fun H locs hw => ?_)
    refine lv_aload_n hx hb dX4_actWalks_27 rfl (lv_at hl 0 rfl) ?_
    refine lv_aload_n hx hb dX4_actWalks_28 rfl (lv_at hl 1 rfl) ?_
    refine lv_iload_n hx hb dX4_actWalks_29 rfl (lv_at hl 2 rfl) ?_
    refine mcU hf hk hst hw (c_X5_actLooks l g kr 5 RX5 TX5 0 oa lbd an ap ab (bg + 1) (upd bod bg 11) x rfl (by first | omega | ((repeat apply tr1_le); dsimp only; omega))) (va_cwO 2 hts gX4_actWalks_X5_actLooks_u22X5 rfl rfl rfl w_1 hdU_LightMan_Kind_actLooks ⟨Nat.le_of_ble_eq_true rfl, Nat.le_of_ble_eq_true rfl⟩) [0, 1, 2] rfl rfl 0 rfl rfl rfl hl.1 rfl (Nat.le_of_ble_eq_true rfl) dX4_actWalks_30 ⟨Nat.zero_le _, Nat.zero_le _⟩ (W' := [cob kr 5 [], cob oa 0 [.int an, .int ap, .int ab, .int (nI (tr1 (tr1 ((bg + 1), (upd bod bg 11)) 30) 10).1), .ref lbd], cin g lbd 30 ((tr1 (tr1 ((bg + 1), (upd bod bg 11)) 30) 10).2)]) rfl (fun H locs hw => ?_)
    refine lv_aload_n hx hb dX4_actWalks_33 rfl (lv_at hl 1 rfl) ?_
    refine rg hf hk hw hinX0 1 rfl rfl 1 (by decide) w_2 rfl dX4_actWalks_34 ?_
    refine lv_bipush (v := 6) hx hb dX4_actWalks_37 (by decide) ?_
    refine lv_imul hx hb dX4_actWalks_39 ?_
    refine lv_iadd hx hb dX4_actWalks_40 ?_
    have h1 : tr1 (bg, bod) 11 = (bg + 1, upd bod bg 11) := if_neg c_1
    exact re_i hf hr hlk hw (rfl) (by simp only [h1, pr_eta]) dX4_actWalks_41
abbrev rmX4_actWalks_9 : Room := { frames := 3, cells := 0, slots := 0, locals := 66 }
set_option maxHeartbeats 4000000 in
set_option maxRecDepth 100000 in
theorem c_X4_actWalks_9 (l : Launch) (g : GG) (kr : Nat) (oa : Nat) (lbd : Nat) (an : Int32) (ap : Int32) (ab : Int32) (bg : Nat) (bod : Nat → Int32) (x : Int32) (hbg : bg ≤ 30) : mt l g yX4_actWalks wsX4_actWalks rmX4_actWalks_9 [.ref kr, .ref oa, .int x] [cob kr 9 [], cob oa 0 [.int an, .int ap, .int ab, .int (nI bg), .ref lbd], cin g lbd 30 bod] (some (.int (((((x * 3) - an) * 2) ^^^ 9) + (ap * 6)))) [cob kr 9 [], cob oa 0 [.int an, .int ap, .int ab, .int (nI (tr1 (tr1 (tr1 (tr1 (bg, bod) 11) 40) 30) 10).1), .ref lbd], cin g lbd 30 ((tr1 (tr1 (tr1 (tr1 (bg, bod) 11) 40) 30) 10).2)] := by
  refine mt.of (cc := cX4_actWalks) (nL := 3) (ret := (some .int)) (own := RX4) (by decide +kernel) rfl rfl (show ([kr, oa, lbd] : List Nat) = [kr, oa, lbd] from rfl) (Nat.le_of_ble_eq_true rfl) (fun p e s m below meth c hf hr hlk _ hk hst hw ls hl => ?_)
  have hx := hf.1
  have hb := hf.2.1
  have hts := hf.2.2.2.2
  have hl : lv_has ls 3 [(0, .ref kr), (1, .ref oa), (2, .int x)] := hl
  have hinX0 : ∀ w ∈ u_ws RX0 TX0 5, w ∈ wsX4_actWalks := fun w h => List.mem_cons_of_mem _ (List.mem_append_right _ h)
  have w_0 : Cond.fieldLink RX4 9 "LightMan$Acting" "began" "I" ∈ wsX4_actWalks := List.mem_of_getElem? (i := 1) rfl
  have w_1 : Cond.code yX4_actLooks cX4_actLooks 3 (some .int) ∈ wsX4_actWalks := List.mem_of_getElem? (i := 9) rfl
  have w_2 : Cond.fieldLink RX4 28 "LightMan$Acting" "place" "I" ∈ wsX4_actWalks := List.mem_of_getElem? (i := 3) rfl
  have w_3 : Cond.fieldLink RX4 15 "LightMan$Acting" "bodies" "[I" ∈ wsX4_actWalks := List.mem_of_getElem? (i := 2) rfl
  refine lv_aload_n hx hb dX4_actWalks_0 rfl (lv_at hl 1 rfl) ?_
  refine rg hf hk hw hinX0 1 rfl rfl 3 (by decide) w_0 rfl dX4_actWalks_1 ?_
  refine lv_bipush (v := 30) hx hb dX4_actWalks_4 (by decide) ?_
  refine lv_icmp_ge (tgt := 27) hx hb dX4_actWalks_6 (by decide) (fun c_1 => ?_) (fun c_1 => ?_)
  · refine lv_aload_n hx hb dX4_actWalks_27 rfl (lv_at hl 0 rfl) ?_
    refine lv_aload_n hx hb dX4_actWalks_28 rfl (lv_at hl 1 rfl) ?_
    refine lv_iload_n hx hb dX4_actWalks_29 rfl (lv_at hl 2 rfl) ?_
    refine mcU hf hk hst hw (c_X9_actLooks_9 l g kr oa lbd an ap ab bg bod x (by first | omega | ((repeat apply tr1_le); dsimp only; omega))) (va_cwO 2 hts gX4_actWalks_X9_actLooks_u22X9 rfl rfl rfl w_1 hdU_LightMan_Kind_actLooks ⟨Nat.le_of_ble_eq_true rfl, Nat.le_of_ble_eq_true rfl⟩) [0, 1, 2] rfl rfl 0 rfl rfl rfl hl.1 rfl (Nat.le_of_ble_eq_true rfl) dX4_actWalks_30 ⟨Nat.zero_le _, Nat.zero_le _⟩ (W' := [cob kr 9 [], cob oa 0 [.int an, .int ap, .int ab, .int (nI (tr1 (tr1 (tr1 (bg, bod) 40) 30) 10).1), .ref lbd], cin g lbd 30 ((tr1 (tr1 (tr1 (bg, bod) 40) 30) 10).2)]) rfl (fun H locs hw => ?_)
    refine lv_aload_n hx hb dX4_actWalks_33 rfl (lv_at hl 1 rfl) ?_
    refine rg hf hk hw hinX0 1 rfl rfl 1 (by decide) w_2 rfl dX4_actWalks_34 ?_
    refine lv_bipush (v := 6) hx hb dX4_actWalks_37 (by decide) ?_
    refine lv_imul hx hb dX4_actWalks_39 ?_
    refine lv_iadd hx hb dX4_actWalks_40 ?_
    have h1 : tr1 (bg, bod) 11 = (bg, bod) := if_pos c_1
    exact re_i hf hr hlk hw (rfl) (by simp only [h1, pr_eta]) dX4_actWalks_41
  · have hb30 : bg < 30 := Nat.not_le.mp (fun h => c_1 ((nI_leI (a := 30) (by omega) (by omega)).mpr h))
    refine lv_aload_n hx hb dX4_actWalks_9 rfl (lv_at hl 1 rfl) ?_
    refine rg hf hk hw hinX0 1 rfl rfl 4 (by decide) w_3 rfl dX4_actWalks_10 ?_
    refine lv_aload_n hx hb dX4_actWalks_13 rfl (lv_at hl 1 rfl) ?_
    refine lv_dup hx hb dX4_actWalks_14 rfl ?_
    refine rg hf hk hw hinX0 1 rfl rfl 3 (by decide) w_0 rfl dX4_actWalks_15 ?_
    refine lv_dup_x1 hx hb dX4_actWalks_18 rfl rfl ?_
    refine lv_iconst (v := 1) hx hb dX4_actWalks_19 (by decide) ?_
    refine lv_iadd hx hb dX4_actWalks_20 ?_
    refine lv_tope (y := nI (bg + 1)) (nI_1 _) ?_
    refine rp hf hk hw hinX0 tyX0 tyX0_ok nmX0 1 rfl rfl 3 (by decide) w_0 rfl (rfl) rfl (Nat.le_of_ble_eq_true rfl) dX4_actWalks_21 (W' := [cob kr 9 [], cob oa 0 [.int an, .int ap, .int ab, .int (nI (bg + 1)), .ref lbd], cin g lbd 30 bod]) rfl (fun H locs hw => ?_)
    refine lv_bipush (v := 11) hx hb dX4_actWalks_24 (by decide) ?_
    refine rsj hf hk hw 2 rfl (j := bg) (vp_in_nI (by omega) (by omega)) (nI_clamp (by omega)) dX4_actWalks_26 (W' := [cob kr 9 [], cob oa 0 [.int an, .int ap, .int ab, .int (nI (bg + 1)), .ref lbd], cin g lbd 30 (upd bod bg 11)]) rfl (fun H locs hw => ?_)
    refine lv_aload_n hx hb dX4_actWalks_27 rfl (lv_at hl 0 rfl) ?_
    refine lv_aload_n hx hb dX4_actWalks_28 rfl (lv_at hl 1 rfl) ?_
    refine lv_iload_n hx hb dX4_actWalks_29 rfl (lv_at hl 2 rfl) ?_
    refine mcU hf hk hst hw (c_X9_actLooks_9 l g kr oa lbd an ap ab (bg + 1) (upd bod bg 11) x (by first | omega | ((repeat apply tr1_le); dsimp only; omega))) (va_cwO 2 hts gX4_actWalks_X9_actLooks_u22X9 rfl rfl rfl w_1 hdU_LightMan_Kind_actLooks ⟨Nat.le_of_ble_eq_true rfl, Nat.le_of_ble_eq_true rfl⟩) [0, 1, 2] rfl rfl 0 rfl rfl rfl hl.1 rfl (Nat.le_of_ble_eq_true rfl) dX4_actWalks_30 ⟨Nat.zero_le _, Nat.zero_le _⟩ (W' := [cob kr 9 [], cob oa 0 [.int an, .int ap, .int ab, .int (nI (tr1 (tr1 (tr1 ((bg + 1), (upd bod bg 11)) 40) 30) 10).1), .ref lbd], cin g lbd 30 ((tr1 (tr1 (tr1 ((bg + 1), (upd bod bg 11)) 40) 30) 10).2)]) rfl (fun H locs hw => ?_)
    refine lv_aload_n hx hb dX4_actWalks_33 rfl (lv_at hl 1 rfl) ?_
    refine rg hf hk hw hinX0 1 rfl rfl 1 (by decide) w_2 rfl dX4_actWalks_34 ?_
    refine lv_bipush (v := 6) hx hb dX4_actWalks_37 (by decide) ?_
    refine lv_imul hx hb dX4_actWalks_39 ?_
    refine lv_iadd hx hb dX4_actWalks_40 ?_
    have h1 : tr1 (bg, bod) 11 = (bg + 1, upd bod bg 11) := if_neg c_1
    exact re_i hf hr hlk hw (rfl) (by simp only [h1, pr_eta]) dX4_actWalks_41
abbrev rmX4_actWalks_1 : Room := { frames := 1, cells := 0, slots := 0, locals := 22 }
set_option maxHeartbeats 4000000 in
set_option maxRecDepth 100000 in
theorem c_X4_actWalks_1 (l : Launch) (g : GG) (kr : Nat) (oa : Nat) (lbd : Nat) (an : Int32) (ap : Int32) (ab : Int32) (bg : Nat) (bod : Nat → Int32) (x : Int32) (hbg : bg ≤ 30) : mt l g yX4_actWalks wsX4_actWalks rmX4_actWalks_1 [.ref kr, .ref oa, .int x] [cob kr 1 [], cob oa 0 [.int an, .int ap, .int ab, .int (nI bg), .ref lbd], cin g lbd 30 bod] (some (.int (((x * 3) - an) + (ap * 6)))) [cob kr 1 [], cob oa 0 [.int an, .int ap, .int ab, .int (nI (tr1 (tr1 (bg, bod) 11) 10).1), .ref lbd], cin g lbd 30 ((tr1 (tr1 (bg, bod) 11) 10).2)] := by
  refine mt.of (cc := cX4_actWalks) (nL := 3) (ret := (some .int)) (own := RX4) (by decide +kernel) rfl rfl (show ([kr, oa, lbd] : List Nat) = [kr, oa, lbd] from rfl) (Nat.le_of_ble_eq_true rfl) (fun p e s m below meth c hf hr hlk _ hk hst hw ls hl => ?_)
  have hx := hf.1
  have hb := hf.2.1
  have hts := hf.2.2.2.2
  have hl : lv_has ls 3 [(0, .ref kr), (1, .ref oa), (2, .int x)] := hl
  have hinX0 : ∀ w ∈ u_ws RX0 TX0 5, w ∈ wsX4_actWalks := fun w h => List.mem_cons_of_mem _ (List.mem_append_right _ h)
  have w_0 : Cond.fieldLink RX4 9 "LightMan$Acting" "began" "I" ∈ wsX4_actWalks := List.mem_of_getElem? (i := 1) rfl
  have w_1 : Cond.fieldLink RX4 28 "LightMan$Acting" "place" "I" ∈ wsX4_actWalks := List.mem_of_getElem? (i := 3) rfl
  have w_2 : Cond.fieldLink RX4 15 "LightMan$Acting" "bodies" "[I" ∈ wsX4_actWalks := List.mem_of_getElem? (i := 2) rfl
  refine lv_aload_n hx hb dX4_actWalks_0 rfl (lv_at hl 1 rfl) ?_
  refine rg hf hk hw hinX0 1 rfl rfl 3 (by decide) w_0 rfl dX4_actWalks_1 ?_
  refine lv_bipush (v := 30) hx hb dX4_actWalks_4 (by decide) ?_
  refine lv_icmp_ge (tgt := 27) hx hb dX4_actWalks_6 (by decide) (fun c_1 => ?_) (fun c_1 => ?_)
  · refine lv_aload_n hx hb dX4_actWalks_27 rfl (lv_at hl 0 rfl) ?_
    refine lv_aload_n hx hb dX4_actWalks_28 rfl (lv_at hl 1 rfl) ?_
    refine lv_iload_n hx hb dX4_actWalks_29 rfl (lv_at hl 2 rfl) ?_
    refine mcU hf hk hst hw (c_X4_actLooks l g kr oa lbd an ap ab bg bod x (by first | omega | ((repeat apply tr1_le); dsimp only; omega))) (va_cwU 2 hts gX4_actWalks_X4_actLooks_u22X1 rfl rfl rfl rfl hdU_LightMan_Kind_actLooks ⟨Nat.le_of_ble_eq_true rfl, Nat.le_of_ble_eq_true rfl⟩) [1, 2] rfl rfl 0 rfl rfl rfl hl.1 rfl (Nat.le_of_ble_eq_true rfl) dX4_actWalks_30 ⟨Nat.zero_le _, Nat.zero_le _⟩ (W' := [cob kr 1 [], cob oa 0 [.int an, .int ap, .int ab, .int (nI (tr1 (bg, bod) 10).1), .ref lbd], cin g lbd 30 ((tr1 (bg, bod) 10).2)]) rfl (fun H locs hw => ?_)
    refine lv_aload_n hx hb dX4_actWalks_33 rfl (lv_at hl 1 rfl) ?_
    refine rg hf hk hw hinX0 1 rfl rfl 1 (by decide) w_1 rfl dX4_actWalks_34 ?_
    refine lv_bipush (v := 6) hx hb dX4_actWalks_37 (by decide) ?_
    refine lv_imul hx hb dX4_actWalks_39 ?_
    refine lv_iadd hx hb dX4_actWalks_40 ?_
    have h1 : tr1 (bg, bod) 11 = (bg, bod) := if_pos c_1
    exact re_i hf hr hlk hw (rfl) (by simp only [h1, pr_eta]) dX4_actWalks_41
  · have hb30 : bg < 30 := Nat.not_le.mp (fun h => c_1 ((nI_leI (a := 30) (by omega) (by omega)).mpr h))
    refine lv_aload_n hx hb dX4_actWalks_9 rfl (lv_at hl 1 rfl) ?_
    refine rg hf hk hw hinX0 1 rfl rfl 4 (by decide) w_2 rfl dX4_actWalks_10 ?_
    refine lv_aload_n hx hb dX4_actWalks_13 rfl (lv_at hl 1 rfl) ?_
    refine lv_dup hx hb dX4_actWalks_14 rfl ?_
    refine rg hf hk hw hinX0 1 rfl rfl 3 (by decide) w_0 rfl dX4_actWalks_15 ?_
    refine lv_dup_x1 hx hb dX4_actWalks_18 rfl rfl ?_
    refine lv_iconst (v := 1) hx hb dX4_actWalks_19 (by decide) ?_
    refine lv_iadd hx hb dX4_actWalks_20 ?_
    refine lv_tope (y := nI (bg + 1)) (nI_1 _) ?_
    refine rp hf hk hw hinX0 tyX0 tyX0_ok nmX0 1 rfl rfl 3 (by decide) w_0 rfl (rfl) rfl (Nat.le_of_ble_eq_true rfl) dX4_actWalks_21 (W' := [cob kr 1 [], cob oa 0 [.int an, .int ap, .int ab, .int (nI (bg + 1)), .ref lbd], cin g lbd 30 bod]) rfl (fun H locs hw => ?_)
    refine lv_bipush (v := 11) hx hb dX4_actWalks_24 (by decide) ?_
    refine rsj hf hk hw 2 rfl (j := bg) (vp_in_nI (by omega) (by omega)) (nI_clamp (by omega)) dX4_actWalks_26 (W' := [cob kr 1 [], cob oa 0 [.int an, .int ap, .int ab, .int (nI (bg + 1)), .ref lbd], cin g lbd 30 (upd bod bg 11)]) rfl (fun H locs hw => ?_)
    refine lv_aload_n hx hb dX4_actWalks_27 rfl (lv_at hl 0 rfl) ?_
    refine lv_aload_n hx hb dX4_actWalks_28 rfl (lv_at hl 1 rfl) ?_
    refine lv_iload_n hx hb dX4_actWalks_29 rfl (lv_at hl 2 rfl) ?_
    refine mcU hf hk hst hw (c_X4_actLooks l g kr oa lbd an ap ab (bg + 1) (upd bod bg 11) x (by first | omega | ((repeat apply tr1_le); dsimp only; omega))) (va_cwU 2 hts gX4_actWalks_X4_actLooks_u22X1 rfl rfl rfl rfl hdU_LightMan_Kind_actLooks ⟨Nat.le_of_ble_eq_true rfl, Nat.le_of_ble_eq_true rfl⟩) [1, 2] rfl rfl 0 rfl rfl rfl hl.1 rfl (Nat.le_of_ble_eq_true rfl) dX4_actWalks_30 ⟨Nat.zero_le _, Nat.zero_le _⟩ (W' := [cob kr 1 [], cob oa 0 [.int an, .int ap, .int ab, .int (nI (tr1 ((bg + 1), (upd bod bg 11)) 10).1), .ref lbd], cin g lbd 30 ((tr1 ((bg + 1), (upd bod bg 11)) 10).2)]) rfl (fun H locs hw => ?_)
    refine lv_aload_n hx hb dX4_actWalks_33 rfl (lv_at hl 1 rfl) ?_
    refine rg hf hk hw hinX0 1 rfl rfl 1 (by decide) w_1 rfl dX4_actWalks_34 ?_
    refine lv_bipush (v := 6) hx hb dX4_actWalks_37 (by decide) ?_
    refine lv_imul hx hb dX4_actWalks_39 ?_
    refine lv_iadd hx hb dX4_actWalks_40 ?_
    have h1 : tr1 (bg, bod) 11 = (bg + 1, upd bod bg 11) := if_neg c_1
    exact re_i hf hr hlk hw (rfl) (by simp only [h1, pr_eta]) dX4_actWalks_41
theorem hdP_X4_actWalks : yX4_actWalks.name ≠ "<init>" ∧ (parseMethodDescriptor yX4_actWalks.desc).map (fun d => d.parameters.length) = some 2 := by decide +kernel
abbrev rmX2_actWalks_2 : Room := { frames := 2, cells := 0, slots := 0, locals := 44 }
set_option maxHeartbeats 4000000 in
set_option maxRecDepth 100000 in
theorem c_X2_actWalks_2 (l : Launch) (g : GG) (kr : Nat) (oa : Nat) (lbd : Nat) (an : Int32) (ap : Int32) (ab : Int32) (bg : Nat) (bod : Nat → Int32) (x : Int32) (hbg : bg ≤ 30) : mt l g yX2_actWalks wsX2_actWalks rmX2_actWalks_2 [.ref kr, .ref oa, .int x] [cob kr 2 [], cob oa 0 [.int an, .int ap, .int ab, .int (nI bg), .ref lbd], cin g lbd 30 bod] (some (.int (0 - (((x * 3) - an) + (ap * 6))))) [cob kr 2 [], cob oa 0 [.int an, .int ap, .int ab, .int (nI (tr1 (tr1 (tr1 (bg, bod) 20) 11) 10).1), .ref lbd], cin g lbd 30 ((tr1 (tr1 (tr1 (bg, bod) 20) 11) 10).2)] := by
  refine mt.of (cc := cX2_actWalks) (nL := 3) (ret := (some .int)) (own := RX2) (by decide +kernel) rfl rfl (show ([kr, oa, lbd] : List Nat) = [kr, oa, lbd] from rfl) (Nat.le_of_ble_eq_true rfl) (fun p e s m below meth c hf hr hlk _ hk hst hw ls hl => ?_)
  have hx := hf.1
  have hb := hf.2.1
  have hts := hf.2.2.2.2
  have hl : lv_has ls 3 [(0, .ref kr), (1, .ref oa), (2, .int x)] := hl
  have hinX0 : ∀ w ∈ u_ws RX0 TX0 5, w ∈ wsX2_actWalks := fun w h => List.mem_cons_of_mem _ (List.mem_append_right _ h)
  have w_0 : Cond.fieldLink RX2 25 "LightMan$Acting" "began" "I" ∈ wsX2_actWalks := List.mem_of_getElem? (i := 1) rfl
  have w_1 : Cond.fieldLink RX2 31 "LightMan$Acting" "bodies" "[I" ∈ wsX2_actWalks := List.mem_of_getElem? (i := 2) rfl
  refine lv_aload_n hx hb dX2_actWalks_0 rfl (lv_at hl 1 rfl) ?_
  refine rg hf hk hw hinX0 1 rfl rfl 3 (by decide) w_0 rfl dX2_actWalks_1 ?_
  refine lv_bipush (v := 30) hx hb dX2_actWalks_4 (by decide) ?_
  refine lv_icmp_ge (tgt := 27) hx hb dX2_actWalks_6 (by decide) (fun c_1 => ?_) (fun c_1 => ?_)
  · refine lv_iconst (v := 0) hx hb dX2_actWalks_27 (by decide) ?_
    refine lv_aload_n hx hb dX2_actWalks_28 rfl (lv_at hl 0 rfl) ?_
    refine lv_aload_n hx hb dX2_actWalks_29 rfl (lv_at hl 1 rfl) ?_
    refine lv_iload_n hx hb dX2_actWalks_30 rfl (lv_at hl 2 rfl) ?_
    refine mcP hf hk hst hw (c_X4_actWalks_2 l g kr oa lbd an ap ab bg bod x (by first | omega | ((repeat apply tr1_le); dsimp only; omega))) (va_cwSU 2 hts gX2_actWalks_X4_actWalks_s35 rfl rfl rfl hdP_X4_actWalks ⟨Nat.le_of_ble_eq_true rfl, Nat.le_of_ble_eq_true rfl⟩) [0, 1, 2] rfl rfl 0 rfl rfl rfl hl.1 rfl (Nat.le_of_ble_eq_true rfl) dX2_actWalks_31 ⟨Nat.zero_le _, Nat.zero_le _⟩ (W' := [cob kr 2 [], cob oa 0 [.int an, .int ap, .int ab, .int (nI (tr1 (tr1 (bg, bod) 11) 10).1), .ref lbd], cin g lbd 30 ((tr1 (tr1 (bg, bod) 11) 10).2)]) rfl (fun H locs hw => ?_)
    refine lv_isub hx hb dX2_actWalks_34 ?_
    have h1 : tr1 (bg, bod) 20 = (bg, bod) := if_pos c_1
    exact re_i hf hr hlk hw (rfl) (by simp only [h1, pr_eta]) dX2_actWalks_35
  · have hb30 : bg < 30 := Nat.not_le.mp (fun h => c_1 ((nI_leI (a := 30) (by omega) (by omega)).mpr h))
    refine lv_aload_n hx hb dX2_actWalks_9 rfl (lv_at hl 1 rfl) ?_
    refine rg hf hk hw hinX0 1 rfl rfl 4 (by decide) w_1 rfl dX2_actWalks_10 ?_
    refine lv_aload_n hx hb dX2_actWalks_13 rfl (lv_at hl 1 rfl) ?_
    refine lv_dup hx hb dX2_actWalks_14 rfl ?_
    refine rg hf hk hw hinX0 1 rfl rfl 3 (by decide) w_0 rfl dX2_actWalks_15 ?_
    refine lv_dup_x1 hx hb dX2_actWalks_18 rfl rfl ?_
    refine lv_iconst (v := 1) hx hb dX2_actWalks_19 (by decide) ?_
    refine lv_iadd hx hb dX2_actWalks_20 ?_
    refine lv_tope (y := nI (bg + 1)) (nI_1 _) ?_
    refine rp hf hk hw hinX0 tyX0 tyX0_ok nmX0 1 rfl rfl 3 (by decide) w_0 rfl (rfl) rfl (Nat.le_of_ble_eq_true rfl) dX2_actWalks_21 (W' := [cob kr 2 [], cob oa 0 [.int an, .int ap, .int ab, .int (nI (bg + 1)), .ref lbd], cin g lbd 30 bod]) rfl (fun H locs hw => ?_)
    refine lv_bipush (v := 20) hx hb dX2_actWalks_24 (by decide) ?_
    refine rsj hf hk hw 2 rfl (j := bg) (vp_in_nI (by omega) (by omega)) (nI_clamp (by omega)) dX2_actWalks_26 (W' := [cob kr 2 [], cob oa 0 [.int an, .int ap, .int ab, .int (nI (bg + 1)), .ref lbd], cin g lbd 30 (upd bod bg 20)]) rfl (fun H locs hw => ?_)
    refine lv_iconst (v := 0) hx hb dX2_actWalks_27 (by decide) ?_
    refine lv_aload_n hx hb dX2_actWalks_28 rfl (lv_at hl 0 rfl) ?_
    refine lv_aload_n hx hb dX2_actWalks_29 rfl (lv_at hl 1 rfl) ?_
    refine lv_iload_n hx hb dX2_actWalks_30 rfl (lv_at hl 2 rfl) ?_
    refine mcP hf hk hst hw (c_X4_actWalks_2 l g kr oa lbd an ap ab (bg + 1) (upd bod bg 20) x (by first | omega | ((repeat apply tr1_le); dsimp only; omega))) (va_cwSU 2 hts gX2_actWalks_X4_actWalks_s35 rfl rfl rfl hdP_X4_actWalks ⟨Nat.le_of_ble_eq_true rfl, Nat.le_of_ble_eq_true rfl⟩) [0, 1, 2] rfl rfl 0 rfl rfl rfl hl.1 rfl (Nat.le_of_ble_eq_true rfl) dX2_actWalks_31 ⟨Nat.zero_le _, Nat.zero_le _⟩ (W' := [cob kr 2 [], cob oa 0 [.int an, .int ap, .int ab, .int (nI (tr1 (tr1 ((bg + 1), (upd bod bg 20)) 11) 10).1), .ref lbd], cin g lbd 30 ((tr1 (tr1 ((bg + 1), (upd bod bg 20)) 11) 10).2)]) rfl (fun H locs hw => ?_)
    refine lv_isub hx hb dX2_actWalks_34 ?_
    have h1 : tr1 (bg, bod) 20 = (bg + 1, upd bod bg 20) := if_neg c_1
    exact re_i hf hr hlk hw (rfl) (by simp only [h1, pr_eta]) dX2_actWalks_35
abbrev rmX2_actWalks_6 : Room := { frames := 3, cells := 0, slots := 0, locals := 66 }
set_option maxHeartbeats 4000000 in
set_option maxRecDepth 100000 in
theorem c_X2_actWalks_6 (l : Launch) (g : GG) (kr : Nat) (oa : Nat) (lbd : Nat) (an : Int32) (ap : Int32) (ab : Int32) (bg : Nat) (bod : Nat → Int32) (x : Int32) (hbg : bg ≤ 30) : mt l g yX2_actWalks wsX2_actWalks rmX2_actWalks_6 [.ref kr, .ref oa, .int x] [cob kr 6 [], cob oa 0 [.int an, .int ap, .int ab, .int (nI bg), .ref lbd], cin g lbd 30 bod] (some (.int (0 - ((((x * 3) - an) + 3) + (ap * 6))))) [cob kr 6 [], cob oa 0 [.int an, .int ap, .int ab, .int (nI (tr1 (tr1 (tr1 (tr1 (bg, bod) 20) 11) 51) 10).1), .ref lbd], cin g lbd 30 ((tr1 (tr1 (tr1 (tr1 (bg, bod) 20) 11) 51) 10).2)] := by
  refine mt.of (cc := cX2_actWalks) (nL := 3) (ret := (some .int)) (own := RX2) (by decide +kernel) rfl rfl (show ([kr, oa, lbd] : List Nat) = [kr, oa, lbd] from rfl) (Nat.le_of_ble_eq_true rfl) (fun p e s m below meth c hf hr hlk _ hk hst hw ls hl => ?_)
  have hx := hf.1
  have hb := hf.2.1
  have hts := hf.2.2.2.2
  have hl : lv_has ls 3 [(0, .ref kr), (1, .ref oa), (2, .int x)] := hl
  have hinX0 : ∀ w ∈ u_ws RX0 TX0 5, w ∈ wsX2_actWalks := fun w h => List.mem_cons_of_mem _ (List.mem_append_right _ h)
  have w_0 : Cond.fieldLink RX2 25 "LightMan$Acting" "began" "I" ∈ wsX2_actWalks := List.mem_of_getElem? (i := 1) rfl
  have w_1 : Cond.fieldLink RX2 31 "LightMan$Acting" "bodies" "[I" ∈ wsX2_actWalks := List.mem_of_getElem? (i := 2) rfl
  refine lv_aload_n hx hb dX2_actWalks_0 rfl (lv_at hl 1 rfl) ?_
  refine rg hf hk hw hinX0 1 rfl rfl 3 (by decide) w_0 rfl dX2_actWalks_1 ?_
  refine lv_bipush (v := 30) hx hb dX2_actWalks_4 (by decide) ?_
  refine lv_icmp_ge (tgt := 27) hx hb dX2_actWalks_6 (by decide) (fun c_1 => ?_) (fun c_1 => ?_)
  · refine lv_iconst (v := 0) hx hb dX2_actWalks_27 (by decide) ?_
    refine lv_aload_n hx hb dX2_actWalks_28 rfl (lv_at hl 0 rfl) ?_
    refine lv_aload_n hx hb dX2_actWalks_29 rfl (lv_at hl 1 rfl) ?_
    refine lv_iload_n hx hb dX2_actWalks_30 rfl (lv_at hl 2 rfl) ?_
    refine mcP hf hk hst hw (c_X4_actWalks_6 l g kr oa lbd an ap ab bg bod x (by first | omega | ((repeat apply tr1_le); dsimp only; omega))) (va_cwSU 2 hts gX2_actWalks_X4_actWalks_s35 rfl rfl rfl hdP_X4_actWalks ⟨Nat.le_of_ble_eq_true rfl, Nat.le_of_ble_eq_true rfl⟩) [0, 1, 2] rfl rfl 0 rfl rfl rfl hl.1 rfl (Nat.le_of_ble_eq_true rfl) dX2_actWalks_31 ⟨Nat.zero_le _, Nat.zero_le _⟩ (W' := [cob kr 6 [], cob oa 0 [.int an, .int ap, .int ab, .int (nI (tr1 (tr1 (tr1 (bg, bod) 11) 51) 10).1), .ref lbd], cin g lbd 30 ((tr1 (tr1 (tr1 (bg, bod) 11) 51) 10).2)]) rfl (fun H locs hw => ?_)
    refine lv_isub hx hb dX2_actWalks_34 ?_
    have h1 : tr1 (bg, bod) 20 = (bg, bod) := if_pos c_1
    exact re_i hf hr hlk hw (rfl) (by simp only [h1, pr_eta]) dX2_actWalks_35
  · have hb30 : bg < 30 := Nat.not_le.mp (fun h => c_1 ((nI_leI (a := 30) (by omega) (by omega)).mpr h))
    refine lv_aload_n hx hb dX2_actWalks_9 rfl (lv_at hl 1 rfl) ?_
    refine rg hf hk hw hinX0 1 rfl rfl 4 (by decide) w_1 rfl dX2_actWalks_10 ?_
    refine lv_aload_n hx hb dX2_actWalks_13 rfl (lv_at hl 1 rfl) ?_
    refine lv_dup hx hb dX2_actWalks_14 rfl ?_
    refine rg hf hk hw hinX0 1 rfl rfl 3 (by decide) w_0 rfl dX2_actWalks_15 ?_
    refine lv_dup_x1 hx hb dX2_actWalks_18 rfl rfl ?_
    refine lv_iconst (v := 1) hx hb dX2_actWalks_19 (by decide) ?_
    refine lv_iadd hx hb dX2_actWalks_20 ?_
    refine lv_tope (y := nI (bg + 1)) (nI_1 _) ?_
    refine rp hf hk hw hinX0 tyX0 tyX0_ok nmX0 1 rfl rfl 3 (by decide) w_0 rfl (rfl) rfl (Nat.le_of_ble_eq_true rfl) dX2_actWalks_21 (W' := [cob kr 6 [], cob oa 0 [.int an, .int ap, .int ab, .int (nI (bg + 1)), .ref lbd], cin g lbd 30 bod]) rfl (fun H locs hw => ?_)
    refine lv_bipush (v := 20) hx hb dX2_actWalks_24 (by decide) ?_
    refine rsj hf hk hw 2 rfl (j := bg) (vp_in_nI (by omega) (by omega)) (nI_clamp (by omega)) dX2_actWalks_26 (W' := [cob kr 6 [], cob oa 0 [.int an, .int ap, .int ab, .int (nI (bg + 1)), .ref lbd], cin g lbd 30 (upd bod bg 20)]) rfl (fun H locs hw => ?_)
    refine lv_iconst (v := 0) hx hb dX2_actWalks_27 (by decide) ?_
    refine lv_aload_n hx hb dX2_actWalks_28 rfl (lv_at hl 0 rfl) ?_
    refine lv_aload_n hx hb dX2_actWalks_29 rfl (lv_at hl 1 rfl) ?_
    refine lv_iload_n hx hb dX2_actWalks_30 rfl (lv_at hl 2 rfl) ?_
    refine mcP hf hk hst hw (c_X4_actWalks_6 l g kr oa lbd an ap ab (bg + 1) (upd bod bg 20) x (by first | omega | ((repeat apply tr1_le); dsimp only; omega))) (va_cwSU 2 hts gX2_actWalks_X4_actWalks_s35 rfl rfl rfl hdP_X4_actWalks ⟨Nat.le_of_ble_eq_true rfl, Nat.le_of_ble_eq_true rfl⟩) [0, 1, 2] rfl rfl 0 rfl rfl rfl hl.1 rfl (Nat.le_of_ble_eq_true rfl) dX2_actWalks_31 ⟨Nat.zero_le _, Nat.zero_le _⟩ (W' := [cob kr 6 [], cob oa 0 [.int an, .int ap, .int ab, .int (nI (tr1 (tr1 (tr1 ((bg + 1), (upd bod bg 20)) 11) 51) 10).1), .ref lbd], cin g lbd 30 ((tr1 (tr1 (tr1 ((bg + 1), (upd bod bg 20)) 11) 51) 10).2)]) rfl (fun H locs hw => ?_)
    refine lv_isub hx hb dX2_actWalks_34 ?_
    have h1 : tr1 (bg, bod) 20 = (bg + 1, upd bod bg 20) := if_neg c_1
    exact re_i hf hr hlk hw (rfl) (by simp only [h1, pr_eta]) dX2_actWalks_35
theorem hdV_X9_actLooks : yX9_actLooks.cls = RX9 ∧ yX9_actLooks.cls ≠ "java/lang/invoke/MethodHandle" ∧ yX9_actLooks.cls ≠ "java/lang/invoke/VarHandle" ∧ (parseMethodDescriptor yX9_actLooks.desc).map (fun d => d.parameters.length) = some 2 := by decide +kernel
abbrev rmX9_actWalks_9 : Room := { frames := 4, cells := 0, slots := 0, locals := 88 }
set_option maxHeartbeats 4000000 in
set_option maxRecDepth 100000 in
theorem c_X9_actWalks_9 (l : Launch) (g : GG) (kr : Nat) (oa : Nat) (lbd : Nat) (an : Int32) (ap : Int32) (ab : Int32) (bg : Nat) (bod : Nat → Int32) (x : Int32) (hbg : bg ≤ 30) : mt l g yX9_actWalks wsX9_actWalks rmX9_actWalks_9 [.ref kr, .ref oa, .int x] [cob kr 9 [], cob oa 0 [.int an, .int ap, .int ab, .int (nI bg), .ref lbd], cin g lbd 30 bod] (some (.int ((((((x * 3) - an) * 2) ^^^ 9) + (ap * 6)) - ((((ap * 3) - an) * 2) ^^^ 9)))) [cob kr 9 [], cob oa 0 [.int an, .int ap, .int ab, .int (nI (tr1 (tr1 (tr1 (tr1 (tr1 (tr1 (tr1 (tr1 (bg, bod) 41) 11) 40) 30) 10) 40) 30) 10).1), .ref lbd], cin g lbd 30 ((tr1 (tr1 (tr1 (tr1 (tr1 (tr1 (tr1 (tr1 (bg, bod) 41) 11) 40) 30) 10) 40) 30) 10).2)] := by
  refine mt.of (cc := cX9_actWalks) (nL := 3) (ret := (some .int)) (own := RX9) (by decide +kernel) rfl rfl (show ([kr, oa, lbd] : List Nat) = [kr, oa, lbd] from rfl) (Nat.le_of_ble_eq_true rfl) (fun p e s m below meth c hf hr hlk _ hk hst hw ls hl => ?_)
  have hx := hf.1
  have hb := hf.2.1
  have hts := hf.2.2.2.2
  have hl : lv_has ls 3 [(0, .ref kr), (1, .ref oa), (2, .int x)] := hl
  have hinX0 : ∀ w ∈ u_ws RX0 TX0 5, w ∈ wsX9_actWalks := fun w h => List.mem_cons_of_mem _ (List.mem_append_right _ h)
  have w_0 : Cond.fieldLink RX9 25 "LightMan$Acting" "began" "I" ∈ wsX9_actWalks := List.mem_of_getElem? (i := 1) rfl
  have w_1 : Cond.fieldLink RX9 42 "LightMan$Acting" "place" "I" ∈ wsX9_actWalks := List.mem_of_getElem? (i := 3) rfl
  have w_2 : Cond.fieldLink RX9 31 "LightMan$Acting" "bodies" "[I" ∈ wsX9_actWalks := List.mem_of_getElem? (i := 2) rfl
  refine lv_aload_n hx hb dX9_actWalks_0 rfl (lv_at hl 1 rfl) ?_
  refine rg hf hk hw hinX0 1 rfl rfl 3 (by decide) w_0 rfl dX9_actWalks_1 ?_
  refine lv_bipush (v := 30) hx hb dX9_actWalks_4 (by decide) ?_
  refine lv_icmp_ge (tgt := 27) hx hb dX9_actWalks_6 (by decide) (fun c_1 => ?_) (fun c_1 => ?_)
  · refine lv_aload_n hx hb dX9_actWalks_27 rfl (lv_at hl 0 rfl) ?_
    refine lv_aload_n hx hb dX9_actWalks_28 rfl (lv_at hl 1 rfl) ?_
    refine lv_iload_n hx hb dX9_actWalks_29 rfl (lv_at hl 2 rfl) ?_
    refine mcQ (x := ⟨"LightMan$Mourner", "actWalks", "(LLightMan$Acting;I)I"⟩) (owner := "LightMan$Kind") hf hk hst hw (c_X4_actWalks_9 l g kr oa lbd an ap ab bg bod x (by first | omega | ((repeat apply tr1_le); dsimp only; omega))) rfl (fun w h => List.mem_append_right _ (List.mem_append_right _ (List.mem_append_left _ h))) rfl (List.mem_of_getElem? (i := 2) rfl) (List.mem_of_getElem? (i := 3) rfl) (List.mem_of_getElem? (i := 8) rfl) (List.mem_of_getElem? (i := 10) rfl) (List.mem_of_getElem? (i := 13) rfl) (List.mem_of_getElem? (i := 16) rfl) hdP_X4_actWalks rfl rfl ⟨Nat.le_of_ble_eq_true rfl, Nat.le_of_ble_eq_true rfl⟩ [0, 1, 2] rfl rfl 0 rfl rfl rfl hl.1 rfl (Nat.le_of_ble_eq_true rfl) dX9_actWalks_30 ⟨Nat.zero_le _, Nat.zero_le _⟩ (W' := [cob kr 9 [], cob oa 0 [.int an, .int ap, .int ab, .int (nI (tr1 (tr1 (tr1 (tr1 (bg, bod) 11) 40) 30) 10).1), .ref lbd], cin g lbd 30 ((tr1 (tr1 (tr1 (tr1 (bg, bod) 11) 40) 30) 10).2)]) rfl (fun H locs hw => ?_)
    refine lv_aload_n hx hb dX9_actWalks_33 rfl (lv_at hl 0 rfl) ?_
    refine lv_aload_n hx hb dX9_actWalks_34 rfl (lv_at hl 1 rfl) ?_
    refine lv_aload_n hx hb dX9_actWalks_35 rfl (lv_at hl 1 rfl) ?_
    refine rg hf hk hw hinX0 1 rfl rfl 1 (by decide) w_1 rfl dX9_actWalks_36 ?_
    refine mcV hf hk hst hw (c_X9_actLooks_9 l g kr oa lbd an ap ab ((tr1 (tr1 (tr1 (tr1 (bg, bod) 11) 40) 30) 10).1) ((tr1 (tr1 (tr1 (tr1 (bg, bod) 11) 40) 30) 10).2) ap (by first | omega | ((repeat apply tr1_le); dsimp only; omega))) (cwV 2 hts gX9_actWalks_X9_actLooks rfl rfl rfl hdV_X9_actLooks ⟨Nat.le_of_ble_eq_true rfl, Nat.le_of_ble_eq_true rfl⟩) [0, 1, 2] rfl rfl 0 rfl rfl rfl hl.1 rfl (Nat.le_of_ble_eq_true rfl) dX9_actWalks_39 ⟨Nat.zero_le _, Nat.zero_le _⟩ (W' := [cob kr 9 [], cob oa 0 [.int an, .int ap, .int ab, .int (nI (tr1 (tr1 (tr1 (((tr1 (tr1 (tr1 (tr1 (bg, bod) 11) 40) 30) 10).1), ((tr1 (tr1 (tr1 (tr1 (bg, bod) 11) 40) 30) 10).2)) 40) 30) 10).1), .ref lbd], cin g lbd 30 ((tr1 (tr1 (tr1 (((tr1 (tr1 (tr1 (tr1 (bg, bod) 11) 40) 30) 10).1), ((tr1 (tr1 (tr1 (tr1 (bg, bod) 11) 40) 30) 10).2)) 40) 30) 10).2)]) rfl (fun H locs hw => ?_)
    refine lv_isub hx hb dX9_actWalks_42 ?_
    have h1 : tr1 (bg, bod) 41 = (bg, bod) := if_pos c_1
    exact re_i hf hr hlk hw (rfl) (by simp only [h1, pr_eta]) dX9_actWalks_43
  · have hb30 : bg < 30 := Nat.not_le.mp (fun h => c_1 ((nI_leI (a := 30) (by omega) (by omega)).mpr h))
    refine lv_aload_n hx hb dX9_actWalks_9 rfl (lv_at hl 1 rfl) ?_
    refine rg hf hk hw hinX0 1 rfl rfl 4 (by decide) w_2 rfl dX9_actWalks_10 ?_
    refine lv_aload_n hx hb dX9_actWalks_13 rfl (lv_at hl 1 rfl) ?_
    refine lv_dup hx hb dX9_actWalks_14 rfl ?_
    refine rg hf hk hw hinX0 1 rfl rfl 3 (by decide) w_0 rfl dX9_actWalks_15 ?_
    refine lv_dup_x1 hx hb dX9_actWalks_18 rfl rfl ?_
    refine lv_iconst (v := 1) hx hb dX9_actWalks_19 (by decide) ?_
    refine lv_iadd hx hb dX9_actWalks_20 ?_
    refine lv_tope (y := nI (bg + 1)) (nI_1 _) ?_
    refine rp hf hk hw hinX0 tyX0 tyX0_ok nmX0 1 rfl rfl 3 (by decide) w_0 rfl (rfl) rfl (Nat.le_of_ble_eq_true rfl) dX9_actWalks_21 (W' := [cob kr 9 [], cob oa 0 [.int an, .int ap, .int ab, .int (nI (bg + 1)), .ref lbd], cin g lbd 30 bod]) rfl (fun H locs hw => ?_)
    refine lv_bipush (v := 41) hx hb dX9_actWalks_24 (by decide) ?_
    refine rsj hf hk hw 2 rfl (j := bg) (vp_in_nI (by omega) (by omega)) (nI_clamp (by omega)) dX9_actWalks_26 (W' := [cob kr 9 [], cob oa 0 [.int an, .int ap, .int ab, .int (nI (bg + 1)), .ref lbd], cin g lbd 30 (upd bod bg 41)]) rfl (fun H locs hw => ?_)
    refine lv_aload_n hx hb dX9_actWalks_27 rfl (lv_at hl 0 rfl) ?_
    refine lv_aload_n hx hb dX9_actWalks_28 rfl (lv_at hl 1 rfl) ?_
    refine lv_iload_n hx hb dX9_actWalks_29 rfl (lv_at hl 2 rfl) ?_
    refine mcQ (x := ⟨"LightMan$Mourner", "actWalks", "(LLightMan$Acting;I)I"⟩) (owner := "LightMan$Kind") hf hk hst hw (c_X4_actWalks_9 l g kr oa lbd an ap ab (bg + 1) (upd bod bg 41) x (by first | omega | ((repeat apply tr1_le); dsimp only; omega))) rfl (fun w h => List.mem_append_right _ (List.mem_append_right _ (List.mem_append_left _ h))) rfl (List.mem_of_getElem? (i := 2) rfl) (List.mem_of_getElem? (i := 3) rfl) (List.mem_of_getElem? (i := 8) rfl) (List.mem_of_getElem? (i := 10) rfl) (List.mem_of_getElem? (i := 13) rfl) (List.mem_of_getElem? (i := 16) rfl) hdP_X4_actWalks rfl rfl ⟨Nat.le_of_ble_eq_true rfl, Nat.le_of_ble_eq_true rfl⟩ [0, 1, 2] rfl rfl 0 rfl rfl rfl hl.1 rfl (Nat.le_of_ble_eq_true rfl) dX9_actWalks_30 ⟨Nat.zero_le _, Nat.zero_le _⟩ (W' := [cob kr 9 [], cob oa 0 [.int an, .int ap, .int ab, .int (nI (tr1 (tr1 (tr1 (tr1 ((bg + 1), (upd bod bg 41)) 11) 40) 30) 10).1), .ref lbd], cin g lbd 30 ((tr1 (tr1 (tr1 (tr1 ((bg + 1), (upd bod bg 41)) 11) 40) 30) 10).2)]) rfl (fun H locs hw => ?_)
    refine lv_aload_n hx hb dX9_actWalks_33 rfl (lv_at hl 0 rfl) ?_
    refine lv_aload_n hx hb dX9_actWalks_34 rfl (lv_at hl 1 rfl) ?_
    refine lv_aload_n hx hb dX9_actWalks_35 rfl (lv_at hl 1 rfl) ?_
    refine rg hf hk hw hinX0 1 rfl rfl 1 (by decide) w_1 rfl dX9_actWalks_36 ?_
    refine mcV hf hk hst hw (c_X9_actLooks_9 l g kr oa lbd an ap ab ((tr1 (tr1 (tr1 (tr1 ((bg + 1), (upd bod bg 41)) 11) 40) 30) 10).1) ((tr1 (tr1 (tr1 (tr1 ((bg + 1), (upd bod bg 41)) 11) 40) 30) 10).2) ap (by first | omega | ((repeat apply tr1_le); dsimp only; omega))) (cwV 2 hts gX9_actWalks_X9_actLooks rfl rfl rfl hdV_X9_actLooks ⟨Nat.le_of_ble_eq_true rfl, Nat.le_of_ble_eq_true rfl⟩) [0, 1, 2] rfl rfl 0 rfl rfl rfl hl.1 rfl (Nat.le_of_ble_eq_true rfl) dX9_actWalks_39 ⟨Nat.zero_le _, Nat.zero_le _⟩ (W' := [cob kr 9 [], cob oa 0 [.int an, .int ap, .int ab, .int (nI (tr1 (tr1 (tr1 (((tr1 (tr1 (tr1 (tr1 ((bg + 1), (upd bod bg 41)) 11) 40) 30) 10).1), ((tr1 (tr1 (tr1 (tr1 ((bg + 1), (upd bod bg 41)) 11) 40) 30) 10).2)) 40) 30) 10).1), .ref lbd], cin g lbd 30 ((tr1 (tr1 (tr1 (((tr1 (tr1 (tr1 (tr1 ((bg + 1), (upd bod bg 41)) 11) 40) 30) 10).1), ((tr1 (tr1 (tr1 (tr1 ((bg + 1), (upd bod bg 41)) 11) 40) 30) 10).2)) 40) 30) 10).2)]) rfl (fun H locs hw => ?_)
    refine lv_isub hx hb dX9_actWalks_42 ?_
    have h1 : tr1 (bg, bod) 41 = (bg + 1, upd bod bg 41) := if_neg c_1
    exact re_i hf hr hlk hw (rfl) (by simp only [h1, pr_eta]) dX9_actWalks_43
theorem hdP_X4_actParts : yX4_actParts.name ≠ "<init>" ∧ (parseMethodDescriptor yX4_actParts.desc).map (fun d => d.parameters.length) = some 2 := by decide +kernel
theorem hdU_LightMan_Child_actLooks : "LightMan$Kind" ≠ "java/lang/invoke/MethodHandle" ∧ "LightMan$Kind" ≠ "java/lang/invoke/VarHandle" ∧ (parseMethodDescriptor (⟨"LightMan$Child", "actLooks", "(LLightMan$Acting;I)I"⟩ : MethodName).desc).map (fun d => d.parameters.length) = some 2 := by decide +kernel
abbrev rmX1_actParts_1 : Room := { frames := 1, cells := 0, slots := 0, locals := 23 }
set_option maxHeartbeats 4000000 in
set_option maxRecDepth 100000 in
theorem c_X1_actParts_1 (l : Launch) (g : GG) (kr : Nat) (oa : Nat) (lbd : Nat) (an : Int32) (ap : Int32) (ab : Int32) (bg : Nat) (bod : Nat → Int32) (x : Int32) (hbg : bg ≤ 30) : mt l g yX1_actParts wsX1_actParts rmX1_actParts_1 [.ref kr, .ref oa, .int x] [cob kr 1 [], cob oa 0 [.int an, .int ap, .int ab, .int (nI bg), .ref lbd], cin g lbd 30 bod] (some (.int (if brk an ap ab = 0 then prt an ap x + (an * 3 - an) else 0))) [cob kr 1 [], cob oa 0 [.int an, .int ap, .int (brk an ap ab), .int (nI (if brk an ap ab = 0 then (tr1 (tr1 (tr1 (bg, bod) 61) 12) 10) else (tr1 (tr1 (bg, bod) 61) 12)).1), .ref lbd], cin g lbd 30 ((if brk an ap ab = 0 then (tr1 (tr1 (tr1 (bg, bod) 61) 12) 10) else (tr1 (tr1 (bg, bod) 61) 12)).2)] := by
  refine mt.of (cc := cX1_actParts) (nL := 4) (ret := (some .int)) (own := RX1) (by decide +kernel) rfl rfl (show ([kr, oa, lbd] : List Nat) = [kr, oa, lbd] from rfl) (Nat.le_of_ble_eq_true rfl) (fun p e s m below meth c hf hr hlk _ hk hst hw ls hl => ?_)
  have hx := hf.1
  have hb := hf.2.1
  have hts := hf.2.2.2.2
  have hl : lv_has ls 4 [(0, .ref kr), (1, .ref oa), (2, .int x)] := hl
  have hinX0 : ∀ w ∈ u_ws RX0 TX0 5, w ∈ wsX1_actParts := fun w h => List.mem_cons_of_mem _ (List.mem_append_right _ h)
  have w_0 : Cond.fieldLink RX1 21 "LightMan$Acting" "began" "I" ∈ wsX1_actParts := List.mem_of_getElem? (i := 1) rfl
  have w_1 : Cond.fieldLink RX1 35 "LightMan$Acting" "isBroken" "Z" ∈ wsX1_actParts := List.mem_of_getElem? (i := 3) rfl
  have w_2 : Cond.fieldLink RX1 39 "LightMan$Acting" "number" "I" ∈ wsX1_actParts := List.mem_of_getElem? (i := 4) rfl
  have w_3 : Cond.fieldLink RX1 27 "LightMan$Acting" "bodies" "[I" ∈ wsX1_actParts := List.mem_of_getElem? (i := 2) rfl
  refine lv_aload_n hx hb dX1_actParts_0 rfl (lv_at hl 1 rfl) ?_
  refine rg hf hk hw hinX0 1 rfl rfl 3 (by decide) w_0 rfl dX1_actParts_1 ?_
  refine lv_bipush (v := 30) hx hb dX1_actParts_4 (by decide) ?_
  refine lv_icmp_ge (tgt := 27) hx hb dX1_actParts_6 (by decide) (fun c_1 => ?_) (fun c_1 => ?_)
  · refine lv_aload_n hx hb dX1_actParts_27 rfl (lv_at hl 0 rfl) ?_
    refine lv_aload_n hx hb dX1_actParts_28 rfl (lv_at hl 1 rfl) ?_
    refine lv_iload_n hx hb dX1_actParts_29 rfl (lv_at hl 2 rfl) ?_
    refine mcP hf hk hst hw (c_X4_actParts l g kr oa lbd an ap ab bg bod x (by first | omega | ((repeat apply tr1_le); dsimp only; omega))) (va_cwSU 2 hts gX1_actParts_X4_actParts_s31 rfl rfl rfl hdP_X4_actParts ⟨Nat.le_of_ble_eq_true rfl, Nat.le_of_ble_eq_true rfl⟩) [1, 2] rfl rfl 0 rfl rfl rfl hl.1 rfl (Nat.le_of_ble_eq_true rfl) dX1_actParts_30 ⟨Nat.zero_le _, Nat.zero_le _⟩ (W' := [cob kr 1 [], cob oa 0 [.int an, .int ap, .int (brk an ap ab), .int (nI (tr1 (bg, bod) 12).1), .ref lbd], cin g lbd 30 ((tr1 (bg, bod) 12).2)]) rfl (fun H locs hw => ?_)
    refine lv_istore_n (lv' := [(3, .int (prt an ap x)), (0, .ref kr), (1, .ref oa), (2, .int x)]) hx hb dX1_actParts_33 rfl hl (by decide) rfl (fun ls hl => ?_)
    refine lv_aload_n hx hb dX1_actParts_34 rfl (lv_at hl 2 rfl) ?_
    refine rg hf hk hw hinX0 1 rfl rfl 2 (by decide) w_1 rfl dX1_actParts_35 ?_
    refine lv_if_eq (tgt := 45) hx hb dX1_actParts_38 (by decide) (fun c_2 => ?_) (fun c_2 => ?_)
    · refine lv_iload_n hx hb dX1_actParts_45 rfl (lv_at hl 0 rfl) ?_
      refine lv_aload_n hx hb dX1_actParts_46 rfl (lv_at hl 1 rfl) ?_
      refine lv_aload_n hx hb dX1_actParts_47 rfl (lv_at hl 2 rfl) ?_
      refine lv_aload_n hx hb dX1_actParts_48 rfl (lv_at hl 2 rfl) ?_
      refine rg hf hk hw hinX0 1 rfl rfl 0 (by decide) w_2 rfl dX1_actParts_49 ?_
      refine mcU hf hk hst hw (c_X4_actLooks l g kr oa lbd an ap (brk an ap ab) ((tr1 (bg, bod) 12).1) ((tr1 (bg, bod) 12).2) an (by first | omega | ((repeat apply tr1_le); dsimp only; omega))) (va_cwU 2 hts gX1_actParts_X4_actLooks_u42X1 rfl rfl rfl rfl hdU_LightMan_Child_actLooks ⟨Nat.le_of_ble_eq_true rfl, Nat.le_of_ble_eq_true rfl⟩) [1, 2] rfl rfl 0 rfl rfl rfl hl.1 rfl (Nat.le_of_ble_eq_true rfl) dX1_actParts_52 ⟨Nat.zero_le _, Nat.zero_le _⟩ (W' := [cob kr 1 [], cob oa 0 [.int an, .int ap, .int (brk an ap ab), .int (nI (tr1 (((tr1 (bg, bod) 12).1), ((tr1 (bg, bod) 12).2)) 10).1), .ref lbd], cin g lbd 30 ((tr1 (((tr1 (bg, bod) 12).1), ((tr1 (bg, bod) 12).2)) 10).2)]) rfl (fun H locs hw => ?_)
      refine lv_iadd hx hb dX1_actParts_55 ?_
      have h1 : tr1 (bg, bod) 61 = (bg, bod) := if_pos c_1
      exact re_i hf hr hlk hw (by rw [if_pos c_2]) (by simp only [if_pos c_2, h1, pr_eta]) dX1_actParts_56
    · refine lv_iconst (v := 0) hx hb dX1_actParts_41 (by decide) ?_
      refine lv_goto (tgt := 56) hx hb dX1_actParts_42 (by decide) ?_
      have h1 : tr1 (bg, bod) 61 = (bg, bod) := if_pos c_1
      exact re_i hf hr hlk hw (by rw [if_neg c_2]) (by simp only [if_neg c_2, h1, pr_eta]) dX1_actParts_56
  · have hb30 : bg < 30 := Nat.not_le.mp (fun h => c_1 ((nI_leI (a := 30) (by omega) (by omega)).mpr h))
    refine lv_aload_n hx hb dX1_actParts_9 rfl (lv_at hl 1 rfl) ?_
    refine rg hf hk hw hinX0 1 rfl rfl 4 (by decide) w_3 rfl dX1_actParts_10 ?_
    refine lv_aload_n hx hb dX1_actParts_13 rfl (lv_at hl 1 rfl) ?_
    refine lv_dup hx hb dX1_actParts_14 rfl ?_
    refine rg hf hk hw hinX0 1 rfl rfl 3 (by decide) w_0 rfl dX1_actParts_15 ?_
    refine lv_dup_x1 hx hb dX1_actParts_18 rfl rfl ?_
    refine lv_iconst (v := 1) hx hb dX1_actParts_19 (by decide) ?_
    refine lv_iadd hx hb dX1_actParts_20 ?_
    refine lv_tope (y := nI (bg + 1)) (nI_1 _) ?_
    refine rp hf hk hw hinX0 tyX0 tyX0_ok nmX0 1 rfl rfl 3 (by decide) w_0 rfl (rfl) rfl (Nat.le_of_ble_eq_true rfl) dX1_actParts_21 (W' := [cob kr 1 [], cob oa 0 [.int an, .int ap, .int ab, .int (nI (bg + 1)), .ref lbd], cin g lbd 30 bod]) rfl (fun H locs hw => ?_)
    refine lv_bipush (v := 61) hx hb dX1_actParts_24 (by decide) ?_
    refine rsj hf hk hw 2 rfl (j := bg) (vp_in_nI (by omega) (by omega)) (nI_clamp (by omega)) dX1_actParts_26 (W' := [cob kr 1 [], cob oa 0 [.int an, .int ap, .int ab, .int (nI (bg + 1)), .ref lbd], cin g lbd 30 (upd bod bg 61)]) rfl (fun H locs hw => ?_)
    refine lv_aload_n hx hb dX1_actParts_27 rfl (lv_at hl 0 rfl) ?_
    refine lv_aload_n hx hb dX1_actParts_28 rfl (lv_at hl 1 rfl) ?_
    refine lv_iload_n hx hb dX1_actParts_29 rfl (lv_at hl 2 rfl) ?_
    refine mcP hf hk hst hw (c_X4_actParts l g kr oa lbd an ap ab (bg + 1) (upd bod bg 61) x (by first | omega | ((repeat apply tr1_le); dsimp only; omega))) (va_cwSU 2 hts gX1_actParts_X4_actParts_s31 rfl rfl rfl hdP_X4_actParts ⟨Nat.le_of_ble_eq_true rfl, Nat.le_of_ble_eq_true rfl⟩) [1, 2] rfl rfl 0 rfl rfl rfl hl.1 rfl (Nat.le_of_ble_eq_true rfl) dX1_actParts_30 ⟨Nat.zero_le _, Nat.zero_le _⟩ (W' := [cob kr 1 [], cob oa 0 [.int an, .int ap, .int (brk an ap ab), .int (nI (tr1 ((bg + 1), (upd bod bg 61)) 12).1), .ref lbd], cin g lbd 30 ((tr1 ((bg + 1), (upd bod bg 61)) 12).2)]) rfl (fun H locs hw => ?_)
    refine lv_istore_n (lv' := [(3, .int (prt an ap x)), (0, .ref kr), (1, .ref oa), (2, .int x)]) hx hb dX1_actParts_33 rfl hl (by decide) rfl (fun ls hl => ?_)
    refine lv_aload_n hx hb dX1_actParts_34 rfl (lv_at hl 2 rfl) ?_
    refine rg hf hk hw hinX0 1 rfl rfl 2 (by decide) w_1 rfl dX1_actParts_35 ?_
    refine lv_if_eq (tgt := 45) hx hb dX1_actParts_38 (by decide) (fun c_3 => ?_) (fun c_3 => ?_)
    · refine lv_iload_n hx hb dX1_actParts_45 rfl (lv_at hl 0 rfl) ?_
      refine lv_aload_n hx hb dX1_actParts_46 rfl (lv_at hl 1 rfl) ?_
      refine lv_aload_n hx hb dX1_actParts_47 rfl (lv_at hl 2 rfl) ?_
      refine lv_aload_n hx hb dX1_actParts_48 rfl (lv_at hl 2 rfl) ?_
      refine rg hf hk hw hinX0 1 rfl rfl 0 (by decide) w_2 rfl dX1_actParts_49 ?_
      refine mcU hf hk hst hw (c_X4_actLooks l g kr oa lbd an ap (brk an ap ab) ((tr1 ((bg + 1), (upd bod bg 61)) 12).1) ((tr1 ((bg + 1), (upd bod bg 61)) 12).2) an (by first | omega | ((repeat apply tr1_le); dsimp only; omega))) (va_cwU 2 hts gX1_actParts_X4_actLooks_u42X1 rfl rfl rfl rfl hdU_LightMan_Child_actLooks ⟨Nat.le_of_ble_eq_true rfl, Nat.le_of_ble_eq_true rfl⟩) [1, 2] rfl rfl 0 rfl rfl rfl hl.1 rfl (Nat.le_of_ble_eq_true rfl) dX1_actParts_52 ⟨Nat.zero_le _, Nat.zero_le _⟩ (W' := [cob kr 1 [], cob oa 0 [.int an, .int ap, .int (brk an ap ab), .int (nI (tr1 (((tr1 ((bg + 1), (upd bod bg 61)) 12).1), ((tr1 ((bg + 1), (upd bod bg 61)) 12).2)) 10).1), .ref lbd], cin g lbd 30 ((tr1 (((tr1 ((bg + 1), (upd bod bg 61)) 12).1), ((tr1 ((bg + 1), (upd bod bg 61)) 12).2)) 10).2)]) rfl (fun H locs hw => ?_)
      refine lv_iadd hx hb dX1_actParts_55 ?_
      have h1 : tr1 (bg, bod) 61 = (bg + 1, upd bod bg 61) := if_neg c_1
      exact re_i hf hr hlk hw (by rw [if_pos c_3]) (by simp only [if_pos c_3, h1, pr_eta]) dX1_actParts_56
    · refine lv_iconst (v := 0) hx hb dX1_actParts_41 (by decide) ?_
      refine lv_goto (tgt := 56) hx hb dX1_actParts_42 (by decide) ?_
      have h1 : tr1 (bg, bod) 61 = (bg + 1, upd bod bg 61) := if_neg c_1
      exact re_i hf hr hlk hw (by rw [if_neg c_3]) (by simp only [if_neg c_3, h1, pr_eta]) dX1_actParts_56
abbrev rmX6_actParts_6 : Room := { frames := 1, cells := 0, slots := 0, locals := 23 }
set_option maxHeartbeats 4000000 in
set_option maxRecDepth 100000 in
theorem c_X6_actParts_6 (l : Launch) (g : GG) (kr : Nat) (oa : Nat) (lbd : Nat) (an : Int32) (ap : Int32) (ab : Int32) (bg : Nat) (bod : Nat → Int32) (x : Int32) (hbg : bg ≤ 30) : mt l g yX6_actParts wsX6_actParts rmX6_actParts_6 [.ref kr, .ref oa, .int x] [cob kr 6 [], cob oa 0 [.int an, .int ap, .int ab, .int (nI bg), .ref lbd], cin g lbd 30 bod] (some (.int ((prt an ap (x + 4)) * an))) [cob kr 6 [], cob oa 0 [.int an, .int ap, .int (brk an ap ab), .int (nI (tr1 (tr1 (bg, bod) 50) 12).1), .ref lbd], cin g lbd 30 ((tr1 (tr1 (bg, bod) 50) 12).2)] := by
  refine mt.of (cc := cX6_actParts) (nL := 3) (ret := (some .int)) (own := RX6) (by decide +kernel) rfl rfl (show ([kr, oa, lbd] : List Nat) = [kr, oa, lbd] from rfl) (Nat.le_of_ble_eq_true rfl) (fun p e s m below meth c hf hr hlk _ hk hst hw ls hl => ?_)
  have hx := hf.1
  have hb := hf.2.1
  have hts := hf.2.2.2.2
  have hl : lv_has ls 3 [(0, .ref kr), (1, .ref oa), (2, .int x)] := hl
  have hinX0 : ∀ w ∈ u_ws RX0 TX0 5, w ∈ wsX6_actParts := fun w h => List.mem_cons_of_mem _ (List.mem_append_right _ h)
  have w_0 : Cond.fieldLink RX6 25 "LightMan$Acting" "began" "I" ∈ wsX6_actParts := List.mem_of_getElem? (i := 1) rfl
  have w_1 : Cond.fieldLink RX6 42 "LightMan$Acting" "number" "I" ∈ wsX6_actParts := List.mem_of_getElem? (i := 3) rfl
  have w_2 : Cond.fieldLink RX6 31 "LightMan$Acting" "bodies" "[I" ∈ wsX6_actParts := List.mem_of_getElem? (i := 2) rfl
  refine lv_aload_n hx hb dX6_actParts_0 rfl (lv_at hl 1 rfl) ?_
  refine rg hf hk hw hinX0 1 rfl rfl 3 (by decide) w_0 rfl dX6_actParts_1 ?_
  refine lv_bipush (v := 30) hx hb dX6_actParts_4 (by decide) ?_
  refine lv_icmp_ge (tgt := 27) hx hb dX6_actParts_6 (by decide) (fun c_1 => ?_) (fun c_1 => ?_)
  · refine lv_aload_n hx hb dX6_actParts_27 rfl (lv_at hl 0 rfl) ?_
    refine lv_aload_n hx hb dX6_actParts_28 rfl (lv_at hl 1 rfl) ?_
    refine lv_iload_n hx hb dX6_actParts_29 rfl (lv_at hl 2 rfl) ?_
    refine lv_iconst (v := 4) hx hb dX6_actParts_30 (by decide) ?_
    refine lv_iadd hx hb dX6_actParts_31 ?_
    refine mcQ (x := ⟨"LightMan$Driver", "actParts", "(LLightMan$Acting;I)I"⟩) (owner := "LightMan$Kind") hf hk hst hw (c_X4_actParts l g kr oa lbd an ap ab bg bod (x + 4) (by first | omega | ((repeat apply tr1_le); dsimp only; omega))) rfl (fun w h => List.mem_append_right _ (List.mem_append_right _ (List.mem_append_right _ (List.mem_append_right _ h)))) rfl (List.mem_of_getElem? (i := 6) rfl) (List.mem_of_getElem? (i := 7) rfl) (List.mem_of_getElem? (i := 9) rfl) (List.mem_of_getElem? (i := 11) rfl) (List.mem_of_getElem? (i := 15) rfl) (List.mem_of_getElem? (i := 16) rfl) hdP_X4_actParts rfl rfl ⟨Nat.le_of_ble_eq_true rfl, Nat.le_of_ble_eq_true rfl⟩ [1, 2] rfl rfl 0 rfl rfl rfl hl.1 rfl (Nat.le_of_ble_eq_true rfl) dX6_actParts_32 ⟨Nat.zero_le _, Nat.zero_le _⟩ (W' := [cob kr 6 [], cob oa 0 [.int an, .int ap, .int (brk an ap ab), .int (nI (tr1 (bg, bod) 12).1), .ref lbd], cin g lbd 30 ((tr1 (bg, bod) 12).2)]) rfl (fun H locs hw => ?_)
    refine lv_aload_n hx hb dX6_actParts_35 rfl (lv_at hl 1 rfl) ?_
    refine rg hf hk hw hinX0 1 rfl rfl 0 (by decide) w_1 rfl dX6_actParts_36 ?_
    refine lv_imul hx hb dX6_actParts_39 ?_
    have h1 : tr1 (bg, bod) 50 = (bg, bod) := if_pos c_1
    exact re_i hf hr hlk hw (rfl) (by simp only [h1, pr_eta]) dX6_actParts_40
  · have hb30 : bg < 30 := Nat.not_le.mp (fun h => c_1 ((nI_leI (a := 30) (by omega) (by omega)).mpr h))
    refine lv_aload_n hx hb dX6_actParts_9 rfl (lv_at hl 1 rfl) ?_
    refine rg hf hk hw hinX0 1 rfl rfl 4 (by decide) w_2 rfl dX6_actParts_10 ?_
    refine lv_aload_n hx hb dX6_actParts_13 rfl (lv_at hl 1 rfl) ?_
    refine lv_dup hx hb dX6_actParts_14 rfl ?_
    refine rg hf hk hw hinX0 1 rfl rfl 3 (by decide) w_0 rfl dX6_actParts_15 ?_
    refine lv_dup_x1 hx hb dX6_actParts_18 rfl rfl ?_
    refine lv_iconst (v := 1) hx hb dX6_actParts_19 (by decide) ?_
    refine lv_iadd hx hb dX6_actParts_20 ?_
    refine lv_tope (y := nI (bg + 1)) (nI_1 _) ?_
    refine rp hf hk hw hinX0 tyX0 tyX0_ok nmX0 1 rfl rfl 3 (by decide) w_0 rfl (rfl) rfl (Nat.le_of_ble_eq_true rfl) dX6_actParts_21 (W' := [cob kr 6 [], cob oa 0 [.int an, .int ap, .int ab, .int (nI (bg + 1)), .ref lbd], cin g lbd 30 bod]) rfl (fun H locs hw => ?_)
    refine lv_bipush (v := 50) hx hb dX6_actParts_24 (by decide) ?_
    refine rsj hf hk hw 2 rfl (j := bg) (vp_in_nI (by omega) (by omega)) (nI_clamp (by omega)) dX6_actParts_26 (W' := [cob kr 6 [], cob oa 0 [.int an, .int ap, .int ab, .int (nI (bg + 1)), .ref lbd], cin g lbd 30 (upd bod bg 50)]) rfl (fun H locs hw => ?_)
    refine lv_aload_n hx hb dX6_actParts_27 rfl (lv_at hl 0 rfl) ?_
    refine lv_aload_n hx hb dX6_actParts_28 rfl (lv_at hl 1 rfl) ?_
    refine lv_iload_n hx hb dX6_actParts_29 rfl (lv_at hl 2 rfl) ?_
    refine lv_iconst (v := 4) hx hb dX6_actParts_30 (by decide) ?_
    refine lv_iadd hx hb dX6_actParts_31 ?_
    refine mcQ (x := ⟨"LightMan$Driver", "actParts", "(LLightMan$Acting;I)I"⟩) (owner := "LightMan$Kind") hf hk hst hw (c_X4_actParts l g kr oa lbd an ap ab (bg + 1) (upd bod bg 50) (x + 4) (by first | omega | ((repeat apply tr1_le); dsimp only; omega))) rfl (fun w h => List.mem_append_right _ (List.mem_append_right _ (List.mem_append_right _ (List.mem_append_right _ h)))) rfl (List.mem_of_getElem? (i := 6) rfl) (List.mem_of_getElem? (i := 7) rfl) (List.mem_of_getElem? (i := 9) rfl) (List.mem_of_getElem? (i := 11) rfl) (List.mem_of_getElem? (i := 15) rfl) (List.mem_of_getElem? (i := 16) rfl) hdP_X4_actParts rfl rfl ⟨Nat.le_of_ble_eq_true rfl, Nat.le_of_ble_eq_true rfl⟩ [1, 2] rfl rfl 0 rfl rfl rfl hl.1 rfl (Nat.le_of_ble_eq_true rfl) dX6_actParts_32 ⟨Nat.zero_le _, Nat.zero_le _⟩ (W' := [cob kr 6 [], cob oa 0 [.int an, .int ap, .int (brk an ap ab), .int (nI (tr1 ((bg + 1), (upd bod bg 50)) 12).1), .ref lbd], cin g lbd 30 ((tr1 ((bg + 1), (upd bod bg 50)) 12).2)]) rfl (fun H locs hw => ?_)
    refine lv_aload_n hx hb dX6_actParts_35 rfl (lv_at hl 1 rfl) ?_
    refine rg hf hk hw hinX0 1 rfl rfl 0 (by decide) w_1 rfl dX6_actParts_36 ?_
    refine lv_imul hx hb dX6_actParts_39 ?_
    have h1 : tr1 (bg, bod) 50 = (bg + 1, upd bod bg 50) := if_neg c_1
    exact re_i hf hr hlk hw (rfl) (by simp only [h1, pr_eta]) dX6_actParts_40
theorem hdV_X4_actWalks : yX4_actWalks.cls = RX4 ∧ yX4_actWalks.cls ≠ "java/lang/invoke/MethodHandle" ∧ yX4_actWalks.cls ≠ "java/lang/invoke/VarHandle" ∧ (parseMethodDescriptor yX4_actWalks.desc).map (fun d => d.parameters.length) = some 2 := by decide +kernel
abbrev rmX4_actComes_4 : Room := { frames := 2, cells := 0, slots := 0, locals := 44 }
set_option maxHeartbeats 4000000 in
set_option maxRecDepth 100000 in
theorem c_X4_actComes_4 (l : Launch) (g : GG) (kr : Nat) (oa : Nat) (lbd : Nat) (an : Int32) (ap : Int32) (ab : Int32) (bg : Nat) (bod : Nat → Int32) (x : Int32) (hbg : bg ≤ 30) : mt l g yX4_actComes wsX4_actComes rmX4_actComes_4 [.ref kr, .ref oa, .int x] [cob kr 4 [], cob oa 0 [.int an, .int ap, .int ab, .int (nI bg), .ref lbd], cin g lbd 30 bod] (some (.int ((((x * 3) - an) + (ap * 6)) ^^^ 200))) [cob kr 4 [], cob oa 0 [.int an, .int ap, .int ab, .int (nI (tr1 (tr1 (tr1 (bg, bod) 13) 11) 10).1), .ref lbd], cin g lbd 30 ((tr1 (tr1 (tr1 (bg, bod) 13) 11) 10).2)] := by
  refine mt.of (cc := cX4_actComes) (nL := 3) (ret := (some .int)) (own := RX4) (by decide +kernel) rfl rfl (show ([kr, oa, lbd] : List Nat) = [kr, oa, lbd] from rfl) (Nat.le_of_ble_eq_true rfl) (fun p e s m below meth c hf hr hlk _ hk hst hw ls hl => ?_)
  have hx := hf.1
  have hb := hf.2.1
  have hts := hf.2.2.2.2
  have hl : lv_has ls 3 [(0, .ref kr), (1, .ref oa), (2, .int x)] := hl
  have hinX0 : ∀ w ∈ u_ws RX0 TX0 5, w ∈ wsX4_actComes := fun w h => List.mem_cons_of_mem _ (List.mem_append_right _ h)
  have w_0 : Cond.fieldLink RX4 9 "LightMan$Acting" "began" "I" ∈ wsX4_actComes := List.mem_of_getElem? (i := 1) rfl
  have w_1 : Cond.fieldLink RX4 15 "LightMan$Acting" "bodies" "[I" ∈ wsX4_actComes := List.mem_of_getElem? (i := 2) rfl
  refine lv_aload_n hx hb dX4_actComes_0 rfl (lv_at hl 1 rfl) ?_
  refine rg hf hk hw hinX0 1 rfl rfl 3 (by decide) w_0 rfl dX4_actComes_1 ?_
  refine lv_bipush (v := 30) hx hb dX4_actComes_4 (by decide) ?_
  refine lv_icmp_ge (tgt := 27) hx hb dX4_actComes_6 (by decide) (fun c_1 => ?_) (fun c_1 => ?_)
  · refine lv_aload_n hx hb dX4_actComes_27 rfl (lv_at hl 0 rfl) ?_
    refine lv_aload_n hx hb dX4_actComes_28 rfl (lv_at hl 1 rfl) ?_
    refine lv_iload_n hx hb dX4_actComes_29 rfl (lv_at hl 2 rfl) ?_
    refine mcV hf hk hst hw (c_X4_actWalks_4 l g kr oa lbd an ap ab bg bod x (by first | omega | ((repeat apply tr1_le); dsimp only; omega))) (cwV 2 hts gX4_actComes_X4_actWalks rfl rfl rfl hdV_X4_actWalks ⟨Nat.le_of_ble_eq_true rfl, Nat.le_of_ble_eq_true rfl⟩) [0, 1, 2] rfl rfl 0 rfl rfl rfl hl.1 rfl (Nat.le_of_ble_eq_true rfl) dX4_actComes_30 ⟨Nat.zero_le _, Nat.zero_le _⟩ (W' := [cob kr 4 [], cob oa 0 [.int an, .int ap, .int ab, .int (nI (tr1 (tr1 (bg, bod) 11) 10).1), .ref lbd], cin g lbd 30 ((tr1 (tr1 (bg, bod) 11) 10).2)]) rfl (fun H locs hw => ?_)
    refine lv_sipush (v := 200) hx hb dX4_actComes_33 (by decide) ?_
    refine lv_ixor hx hb dX4_actComes_36 ?_
    have h1 : tr1 (bg, bod) 13 = (bg, bod) := if_pos c_1
    exact re_i hf hr hlk hw (rfl) (by simp only [h1, pr_eta]) dX4_actComes_37
  · have hb30 : bg < 30 := Nat.not_le.mp (fun h => c_1 ((nI_leI (a := 30) (by omega) (by omega)).mpr h))
    refine lv_aload_n hx hb dX4_actComes_9 rfl (lv_at hl 1 rfl) ?_
    refine rg hf hk hw hinX0 1 rfl rfl 4 (by decide) w_1 rfl dX4_actComes_10 ?_
    refine lv_aload_n hx hb dX4_actComes_13 rfl (lv_at hl 1 rfl) ?_
    refine lv_dup hx hb dX4_actComes_14 rfl ?_
    refine rg hf hk hw hinX0 1 rfl rfl 3 (by decide) w_0 rfl dX4_actComes_15 ?_
    refine lv_dup_x1 hx hb dX4_actComes_18 rfl rfl ?_
    refine lv_iconst (v := 1) hx hb dX4_actComes_19 (by decide) ?_
    refine lv_iadd hx hb dX4_actComes_20 ?_
    refine lv_tope (y := nI (bg + 1)) (nI_1 _) ?_
    refine rp hf hk hw hinX0 tyX0 tyX0_ok nmX0 1 rfl rfl 3 (by decide) w_0 rfl (rfl) rfl (Nat.le_of_ble_eq_true rfl) dX4_actComes_21 (W' := [cob kr 4 [], cob oa 0 [.int an, .int ap, .int ab, .int (nI (bg + 1)), .ref lbd], cin g lbd 30 bod]) rfl (fun H locs hw => ?_)
    refine lv_bipush (v := 13) hx hb dX4_actComes_24 (by decide) ?_
    refine rsj hf hk hw 2 rfl (j := bg) (vp_in_nI (by omega) (by omega)) (nI_clamp (by omega)) dX4_actComes_26 (W' := [cob kr 4 [], cob oa 0 [.int an, .int ap, .int ab, .int (nI (bg + 1)), .ref lbd], cin g lbd 30 (upd bod bg 13)]) rfl (fun H locs hw => ?_)
    refine lv_aload_n hx hb dX4_actComes_27 rfl (lv_at hl 0 rfl) ?_
    refine lv_aload_n hx hb dX4_actComes_28 rfl (lv_at hl 1 rfl) ?_
    refine lv_iload_n hx hb dX4_actComes_29 rfl (lv_at hl 2 rfl) ?_
    refine mcV hf hk hst hw (c_X4_actWalks_4 l g kr oa lbd an ap ab (bg + 1) (upd bod bg 13) x (by first | omega | ((repeat apply tr1_le); dsimp only; omega))) (cwV 2 hts gX4_actComes_X4_actWalks rfl rfl rfl hdV_X4_actWalks ⟨Nat.le_of_ble_eq_true rfl, Nat.le_of_ble_eq_true rfl⟩) [0, 1, 2] rfl rfl 0 rfl rfl rfl hl.1 rfl (Nat.le_of_ble_eq_true rfl) dX4_actComes_30 ⟨Nat.zero_le _, Nat.zero_le _⟩ (W' := [cob kr 4 [], cob oa 0 [.int an, .int ap, .int ab, .int (nI (tr1 (tr1 ((bg + 1), (upd bod bg 13)) 11) 10).1), .ref lbd], cin g lbd 30 ((tr1 (tr1 ((bg + 1), (upd bod bg 13)) 11) 10).2)]) rfl (fun H locs hw => ?_)
    refine lv_sipush (v := 200) hx hb dX4_actComes_33 (by decide) ?_
    refine lv_ixor hx hb dX4_actComes_36 ?_
    have h1 : tr1 (bg, bod) 13 = (bg + 1, upd bod bg 13) := if_neg c_1
    exact re_i hf hr hlk hw (rfl) (by simp only [h1, pr_eta]) dX4_actComes_37
theorem hdU_LightMan_Kind_actWalks : "LightMan$Kind" ≠ "java/lang/invoke/MethodHandle" ∧ "LightMan$Kind" ≠ "java/lang/invoke/VarHandle" ∧ (parseMethodDescriptor (⟨"LightMan$Kind", "actWalks", "(LLightMan$Acting;I)I"⟩ : MethodName).desc).map (fun d => d.parameters.length) = some 2 := by decide +kernel
abbrev rmX4_actComes_2 : Room := { frames := 3, cells := 0, slots := 0, locals := 66 }
set_option maxHeartbeats 4000000 in
set_option maxRecDepth 100000 in
theorem c_X4_actComes_2 (l : Launch) (g : GG) (kr : Nat) (oa : Nat) (lbd : Nat) (an : Int32) (ap : Int32) (ab : Int32) (bg : Nat) (bod : Nat → Int32) (x : Int32) (hbg : bg ≤ 30) : mt l g yX4_actComes wsX4_actComes rmX4_actComes_2 [.ref kr, .ref oa, .int x] [cob kr 2 [], cob oa 0 [.int an, .int ap, .int ab, .int (nI bg), .ref lbd], cin g lbd 30 bod] (some (.int ((0 - (((x * 3) - an) + (ap * 6))) ^^^ 200))) [cob kr 2 [], cob oa 0 [.int an, .int ap, .int ab, .int (nI (tr1 (tr1 (tr1 (tr1 (bg, bod) 13) 20) 11) 10).1), .ref lbd], cin g lbd 30 ((tr1 (tr1 (tr1 (tr1 (bg, bod) 13) 20) 11) 10).2)] := by
  refine mt.of (cc := cX4_actComes) (nL := 3) (ret := (some .int)) (own := RX4) (by decide +kernel) rfl rfl (show ([kr, oa, lbd] : List Nat) = [kr, oa, lbd] from rfl) (Nat.le_of_ble_eq_true rfl) (fun p e s m below meth c hf hr hlk _ hk hst hw ls hl => ?_)
  have hx := hf.1
  have hb := hf.2.1
  have hts := hf.2.2.2.2
  have hl : lv_has ls 3 [(0, .ref kr), (1, .ref oa), (2, .int x)] := hl
  have hinX0 : ∀ w ∈ u_ws RX0 TX0 5, w ∈ wsX4_actComes := fun w h => List.mem_cons_of_mem _ (List.mem_append_right _ h)
  have w_0 : Cond.fieldLink RX4 9 "LightMan$Acting" "began" "I" ∈ wsX4_actComes := List.mem_of_getElem? (i := 1) rfl
  have w_1 : Cond.code yX4_actWalks cX4_actWalks 3 (some .int) ∈ wsX4_actComes := List.mem_of_getElem? (i := 8) rfl
  have w_2 : Cond.fieldLink RX4 15 "LightMan$Acting" "bodies" "[I" ∈ wsX4_actComes := List.mem_of_getElem? (i := 2) rfl
  refine lv_aload_n hx hb dX4_actComes_0 rfl (lv_at hl 1 rfl) ?_
  refine rg hf hk hw hinX0 1 rfl rfl 3 (by decide) w_0 rfl dX4_actComes_1 ?_
  refine lv_bipush (v := 30) hx hb dX4_actComes_4 (by decide) ?_
  refine lv_icmp_ge (tgt := 27) hx hb dX4_actComes_6 (by decide) (fun c_1 => ?_) (fun c_1 => ?_)
  · refine lv_aload_n hx hb dX4_actComes_27 rfl (lv_at hl 0 rfl) ?_
    refine lv_aload_n hx hb dX4_actComes_28 rfl (lv_at hl 1 rfl) ?_
    refine lv_iload_n hx hb dX4_actComes_29 rfl (lv_at hl 2 rfl) ?_
    refine mcU hf hk hst hw (c_X2_actWalks_2 l g kr oa lbd an ap ab bg bod x (by first | omega | ((repeat apply tr1_le); dsimp only; omega))) (va_cwO 2 hts gX4_actComes_X2_actWalks_u35X2 rfl rfl rfl w_1 hdU_LightMan_Kind_actWalks ⟨Nat.le_of_ble_eq_true rfl, Nat.le_of_ble_eq_true rfl⟩) [0, 1, 2] rfl rfl 0 rfl rfl rfl hl.1 rfl (Nat.le_of_ble_eq_true rfl) dX4_actComes_30 ⟨Nat.zero_le _, Nat.zero_le _⟩ (W' := [cob kr 2 [], cob oa 0 [.int an, .int ap, .int ab, .int (nI (tr1 (tr1 (tr1 (bg, bod) 20) 11) 10).1), .ref lbd], cin g lbd 30 ((tr1 (tr1 (tr1 (bg, bod) 20) 11) 10).2)]) rfl (fun H locs hw => ?_)
    refine lv_sipush (v := 200) hx hb dX4_actComes_33 (by decide) ?_
    refine lv_ixor hx hb dX4_actComes_36 ?_
    have h1 : tr1 (bg, bod) 13 = (bg, bod) := if_pos c_1
    exact re_i hf hr hlk hw (rfl) (by simp only [h1, pr_eta]) dX4_actComes_37
  · have hb30 : bg < 30 := Nat.not_le.mp (fun h => c_1 ((nI_leI (a := 30) (by omega) (by omega)).mpr h))
    refine lv_aload_n hx hb dX4_actComes_9 rfl (lv_at hl 1 rfl) ?_
    refine rg hf hk hw hinX0 1 rfl rfl 4 (by decide) w_2 rfl dX4_actComes_10 ?_
    refine lv_aload_n hx hb dX4_actComes_13 rfl (lv_at hl 1 rfl) ?_
    refine lv_dup hx hb dX4_actComes_14 rfl ?_
    refine rg hf hk hw hinX0 1 rfl rfl 3 (by decide) w_0 rfl dX4_actComes_15 ?_
    refine lv_dup_x1 hx hb dX4_actComes_18 rfl rfl ?_
    refine lv_iconst (v := 1) hx hb dX4_actComes_19 (by decide) ?_
    refine lv_iadd hx hb dX4_actComes_20 ?_
    refine lv_tope (y := nI (bg + 1)) (nI_1 _) ?_
    refine rp hf hk hw hinX0 tyX0 tyX0_ok nmX0 1 rfl rfl 3 (by decide) w_0 rfl (rfl) rfl (Nat.le_of_ble_eq_true rfl) dX4_actComes_21 (W' := [cob kr 2 [], cob oa 0 [.int an, .int ap, .int ab, .int (nI (bg + 1)), .ref lbd], cin g lbd 30 bod]) rfl (fun H locs hw => ?_)
    refine lv_bipush (v := 13) hx hb dX4_actComes_24 (by decide) ?_
    refine rsj hf hk hw 2 rfl (j := bg) (vp_in_nI (by omega) (by omega)) (nI_clamp (by omega)) dX4_actComes_26 (W' := [cob kr 2 [], cob oa 0 [.int an, .int ap, .int ab, .int (nI (bg + 1)), .ref lbd], cin g lbd 30 (upd bod bg 13)]) rfl (fun H locs hw => ?_)
    refine lv_aload_n hx hb dX4_actComes_27 rfl (lv_at hl 0 rfl) ?_
    refine lv_aload_n hx hb dX4_actComes_28 rfl (lv_at hl 1 rfl) ?_
    refine lv_iload_n hx hb dX4_actComes_29 rfl (lv_at hl 2 rfl) ?_
    refine mcU hf hk hst hw (c_X2_actWalks_2 l g kr oa lbd an ap ab (bg + 1) (upd bod bg 13) x (by first | omega | ((repeat apply tr1_le); dsimp only; omega))) (va_cwO 2 hts gX4_actComes_X2_actWalks_u35X2 rfl rfl rfl w_1 hdU_LightMan_Kind_actWalks ⟨Nat.le_of_ble_eq_true rfl, Nat.le_of_ble_eq_true rfl⟩) [0, 1, 2] rfl rfl 0 rfl rfl rfl hl.1 rfl (Nat.le_of_ble_eq_true rfl) dX4_actComes_30 ⟨Nat.zero_le _, Nat.zero_le _⟩ (W' := [cob kr 2 [], cob oa 0 [.int an, .int ap, .int ab, .int (nI (tr1 (tr1 (tr1 ((bg + 1), (upd bod bg 13)) 20) 11) 10).1), .ref lbd], cin g lbd 30 ((tr1 (tr1 (tr1 ((bg + 1), (upd bod bg 13)) 20) 11) 10).2)]) rfl (fun H locs hw => ?_)
    refine lv_sipush (v := 200) hx hb dX4_actComes_33 (by decide) ?_
    refine lv_ixor hx hb dX4_actComes_36 ?_
    have h1 : tr1 (bg, bod) 13 = (bg + 1, upd bod bg 13) := if_neg c_1
    exact re_i hf hr hlk hw (rfl) (by simp only [h1, pr_eta]) dX4_actComes_37
abbrev rmX4_actComes_6 : Room := { frames := 4, cells := 0, slots := 0, locals := 88 }
set_option maxHeartbeats 4000000 in
set_option maxRecDepth 100000 in
theorem c_X4_actComes_6 (l : Launch) (g : GG) (kr : Nat) (oa : Nat) (lbd : Nat) (an : Int32) (ap : Int32) (ab : Int32) (bg : Nat) (bod : Nat → Int32) (x : Int32) (hbg : bg ≤ 30) : mt l g yX4_actComes wsX4_actComes rmX4_actComes_6 [.ref kr, .ref oa, .int x] [cob kr 6 [], cob oa 0 [.int an, .int ap, .int ab, .int (nI bg), .ref lbd], cin g lbd 30 bod] (some (.int ((0 - ((((x * 3) - an) + 3) + (ap * 6))) ^^^ 200))) [cob kr 6 [], cob oa 0 [.int an, .int ap, .int ab, .int (nI (tr1 (tr1 (tr1 (tr1 (tr1 (bg, bod) 13) 20) 11) 51) 10).1), .ref lbd], cin g lbd 30 ((tr1 (tr1 (tr1 (tr1 (tr1 (bg, bod) 13) 20) 11) 51) 10).2)] := by
  refine mt.of (cc := cX4_actComes) (nL := 3) (ret := (some .int)) (own := RX4) (by decide +kernel) rfl rfl (show ([kr, oa, lbd] : List Nat) = [kr, oa, lbd] from rfl) (Nat.le_of_ble_eq_true rfl) (fun p e s m below meth c hf hr hlk _ hk hst hw ls hl => ?_)
  have hx := hf.1
  have hb := hf.2.1
  have hts := hf.2.2.2.2
  have hl : lv_has ls 3 [(0, .ref kr), (1, .ref oa), (2, .int x)] := hl
  have hinX0 : ∀ w ∈ u_ws RX0 TX0 5, w ∈ wsX4_actComes := fun w h => List.mem_cons_of_mem _ (List.mem_append_right _ h)
  have w_0 : Cond.fieldLink RX4 9 "LightMan$Acting" "began" "I" ∈ wsX4_actComes := List.mem_of_getElem? (i := 1) rfl
  have w_1 : Cond.code yX4_actWalks cX4_actWalks 3 (some .int) ∈ wsX4_actComes := List.mem_of_getElem? (i := 8) rfl
  have w_2 : Cond.fieldLink RX4 15 "LightMan$Acting" "bodies" "[I" ∈ wsX4_actComes := List.mem_of_getElem? (i := 2) rfl
  refine lv_aload_n hx hb dX4_actComes_0 rfl (lv_at hl 1 rfl) ?_
  refine rg hf hk hw hinX0 1 rfl rfl 3 (by decide) w_0 rfl dX4_actComes_1 ?_
  refine lv_bipush (v := 30) hx hb dX4_actComes_4 (by decide) ?_
  refine lv_icmp_ge (tgt := 27) hx hb dX4_actComes_6 (by decide) (fun c_1 => ?_) (fun c_1 => ?_)
  · refine lv_aload_n hx hb dX4_actComes_27 rfl (lv_at hl 0 rfl) ?_
    refine lv_aload_n hx hb dX4_actComes_28 rfl (lv_at hl 1 rfl) ?_
    refine lv_iload_n hx hb dX4_actComes_29 rfl (lv_at hl 2 rfl) ?_
    refine mcU hf hk hst hw (c_X2_actWalks_6 l g kr oa lbd an ap ab bg bod x (by first | omega | ((repeat apply tr1_le); dsimp only; omega))) (va_cwO 2 hts gX4_actComes_X2_actWalks_u35X6 rfl rfl rfl w_1 hdU_LightMan_Kind_actWalks ⟨Nat.le_of_ble_eq_true rfl, Nat.le_of_ble_eq_true rfl⟩) [0, 1, 2] rfl rfl 0 rfl rfl rfl hl.1 rfl (Nat.le_of_ble_eq_true rfl) dX4_actComes_30 ⟨Nat.zero_le _, Nat.zero_le _⟩ (W' := [cob kr 6 [], cob oa 0 [.int an, .int ap, .int ab, .int (nI (tr1 (tr1 (tr1 (tr1 (bg, bod) 20) 11) 51) 10).1), .ref lbd], cin g lbd 30 ((tr1 (tr1 (tr1 (tr1 (bg, bod) 20) 11) 51) 10).2)]) rfl (fun H locs hw => ?_)
    refine lv_sipush (v := 200) hx hb dX4_actComes_33 (by decide) ?_
    refine lv_ixor hx hb dX4_actComes_36 ?_
    have h1 : tr1 (bg, bod) 13 = (bg, bod) := if_pos c_1
    exact re_i hf hr hlk hw (rfl) (by simp only [h1, pr_eta]) dX4_actComes_37
  · have hb30 : bg < 30 := Nat.not_le.mp (fun h => c_1 ((nI_leI (a := 30) (by omega) (by omega)).mpr h))
    refine lv_aload_n hx hb dX4_actComes_9 rfl (lv_at hl 1 rfl) ?_
    refine rg hf hk hw hinX0 1 rfl rfl 4 (by decide) w_2 rfl dX4_actComes_10 ?_
    refine lv_aload_n hx hb dX4_actComes_13 rfl (lv_at hl 1 rfl) ?_
    refine lv_dup hx hb dX4_actComes_14 rfl ?_
    refine rg hf hk hw hinX0 1 rfl rfl 3 (by decide) w_0 rfl dX4_actComes_15 ?_
    refine lv_dup_x1 hx hb dX4_actComes_18 rfl rfl ?_
    refine lv_iconst (v := 1) hx hb dX4_actComes_19 (by decide) ?_
    refine lv_iadd hx hb dX4_actComes_20 ?_
    refine lv_tope (y := nI (bg + 1)) (nI_1 _) ?_
    refine rp hf hk hw hinX0 tyX0 tyX0_ok nmX0 1 rfl rfl 3 (by decide) w_0 rfl (rfl) rfl (Nat.le_of_ble_eq_true rfl) dX4_actComes_21 (W' := [cob kr 6 [], cob oa 0 [.int an, .int ap, .int ab, .int (nI (bg + 1)), .ref lbd], cin g lbd 30 bod]) rfl (fun H locs hw => ?_)
    refine lv_bipush (v := 13) hx hb dX4_actComes_24 (by decide) ?_
    refine rsj hf hk hw 2 rfl (j := bg) (vp_in_nI (by omega) (by omega)) (nI_clamp (by omega)) dX4_actComes_26 (W' := [cob kr 6 [], cob oa 0 [.int an, .int ap, .int ab, .int (nI (bg + 1)), .ref lbd], cin g lbd 30 (upd bod bg 13)]) rfl (fun H locs hw => ?_)
    refine lv_aload_n hx hb dX4_actComes_27 rfl (lv_at hl 0 rfl) ?_
    refine lv_aload_n hx hb dX4_actComes_28 rfl (lv_at hl 1 rfl) ?_
    refine lv_iload_n hx hb dX4_actComes_29 rfl (lv_at hl 2 rfl) ?_
    refine mcU hf hk hst hw (c_X2_actWalks_6 l g kr oa lbd an ap ab (bg + 1) (upd bod bg 13) x (by first | omega | ((repeat apply tr1_le); dsimp only; omega))) (va_cwO 2 hts gX4_actComes_X2_actWalks_u35X6 rfl rfl rfl w_1 hdU_LightMan_Kind_actWalks ⟨Nat.le_of_ble_eq_true rfl, Nat.le_of_ble_eq_true rfl⟩) [0, 1, 2] rfl rfl 0 rfl rfl rfl hl.1 rfl (Nat.le_of_ble_eq_true rfl) dX4_actComes_30 ⟨Nat.zero_le _, Nat.zero_le _⟩ (W' := [cob kr 6 [], cob oa 0 [.int an, .int ap, .int ab, .int (nI (tr1 (tr1 (tr1 (tr1 ((bg + 1), (upd bod bg 13)) 20) 11) 51) 10).1), .ref lbd], cin g lbd 30 ((tr1 (tr1 (tr1 (tr1 ((bg + 1), (upd bod bg 13)) 20) 11) 51) 10).2)]) rfl (fun H locs hw => ?_)
    refine lv_sipush (v := 200) hx hb dX4_actComes_33 (by decide) ?_
    refine lv_ixor hx hb dX4_actComes_36 ?_
    have h1 : tr1 (bg, bod) 13 = (bg + 1, upd bod bg 13) := if_neg c_1
    exact re_i hf hr hlk hw (rfl) (by simp only [h1, pr_eta]) dX4_actComes_37
abbrev rmX4_actComes_5 : Room := { frames := 3, cells := 0, slots := 0, locals := 66 }
set_option maxHeartbeats 4000000 in
set_option maxRecDepth 100000 in
theorem c_X4_actComes_5 (l : Launch) (g : GG) (kr : Nat) (oa : Nat) (lbd : Nat) (an : Int32) (ap : Int32) (ab : Int32) (bg : Nat) (bod : Nat → Int32) (x : Int32) (hbg : bg ≤ 30) : mt l g yX4_actComes wsX4_actComes rmX4_actComes_5 [.ref kr, .ref oa, .int x] [cob kr 5 [], cob oa 0 [.int an, .int ap, .int ab, .int (nI bg), .ref lbd], cin g lbd 30 bod] (some (.int (((((x * 3) - an) * 2) + (ap * 6)) ^^^ 200))) [cob kr 5 [], cob oa 0 [.int an, .int ap, .int ab, .int (nI (tr1 (tr1 (tr1 (tr1 (bg, bod) 13) 11) 30) 10).1), .ref lbd], cin g lbd 30 ((tr1 (tr1 (tr1 (tr1 (bg, bod) 13) 11) 30) 10).2)] := by
  refine mt.of (cc := cX4_actComes) (nL := 3) (ret := (some .int)) (own := RX4) (by decide +kernel) rfl rfl (show ([kr, oa, lbd] : List Nat) = [kr, oa, lbd] from rfl) (Nat.le_of_ble_eq_true rfl) (fun p e s m below meth c hf hr hlk _ hk hst hw ls hl => ?_)
  have hx := hf.1
  have hb := hf.2.1
  have hts := hf.2.2.2.2
  have hl : lv_has ls 3 [(0, .ref kr), (1, .ref oa), (2, .int x)] := hl
  have hinX0 : ∀ w ∈ u_ws RX0 TX0 5, w ∈ wsX4_actComes := fun w h => List.mem_cons_of_mem _ (List.mem_append_right _ h)
  have w_0 : Cond.fieldLink RX4 9 "LightMan$Acting" "began" "I" ∈ wsX4_actComes := List.mem_of_getElem? (i := 1) rfl
  have w_1 : Cond.fieldLink RX4 15 "LightMan$Acting" "bodies" "[I" ∈ wsX4_actComes := List.mem_of_getElem? (i := 2) rfl
  refine lv_aload_n hx hb dX4_actComes_0 rfl (lv_at hl 1 rfl) ?_
  refine rg hf hk hw hinX0 1 rfl rfl 3 (by decide) w_0 rfl dX4_actComes_1 ?_
  refine lv_bipush (v := 30) hx hb dX4_actComes_4 (by decide) ?_
  refine lv_icmp_ge (tgt := 27) hx hb dX4_actComes_6 (by decide) (fun c_1 => ?_) (fun c_1 => ?_)
  · refine lv_aload_n hx hb dX4_actComes_27 rfl (lv_at hl 0 rfl) ?_
    refine lv_aload_n hx hb dX4_actComes_28 rfl (lv_at hl 1 rfl) ?_
    refine lv_iload_n hx hb dX4_actComes_29 rfl (lv_at hl 2 rfl) ?_
    refine mcU hf hk hst hw (c_X4_actWalks_5 l g kr oa lbd an ap ab bg bod x (by first | omega | ((repeat apply tr1_le); dsimp only; omega))) (va_cwU 2 hts gX4_actComes_X4_actWalks_u35X5 rfl rfl rfl rfl hdU_LightMan_Kind_actWalks ⟨Nat.le_of_ble_eq_true rfl, Nat.le_of_ble_eq_true rfl⟩) [0, 1, 2] rfl rfl 0 rfl rfl rfl hl.1 rfl (Nat.le_of_ble_eq_true rfl) dX4_actComes_30 ⟨Nat.zero_le _, Nat.zero_le _⟩ (W' := [cob kr 5 [], cob oa 0 [.int an, .int ap, .int ab, .int (nI (tr1 (tr1 (tr1 (bg, bod) 11) 30) 10).1), .ref lbd], cin g lbd 30 ((tr1 (tr1 (tr1 (bg, bod) 11) 30) 10).2)]) rfl (fun H locs hw => ?_)
    refine lv_sipush (v := 200) hx hb dX4_actComes_33 (by decide) ?_
    refine lv_ixor hx hb dX4_actComes_36 ?_
    have h1 : tr1 (bg, bod) 13 = (bg, bod) := if_pos c_1
    exact re_i hf hr hlk hw (rfl) (by simp only [h1, pr_eta]) dX4_actComes_37
  · have hb30 : bg < 30 := Nat.not_le.mp (fun h => c_1 ((nI_leI (a := 30) (by omega) (by omega)).mpr h))
    refine lv_aload_n hx hb dX4_actComes_9 rfl (lv_at hl 1 rfl) ?_
    refine rg hf hk hw hinX0 1 rfl rfl 4 (by decide) w_1 rfl dX4_actComes_10 ?_
    refine lv_aload_n hx hb dX4_actComes_13 rfl (lv_at hl 1 rfl) ?_
    refine lv_dup hx hb dX4_actComes_14 rfl ?_
    refine rg hf hk hw hinX0 1 rfl rfl 3 (by decide) w_0 rfl dX4_actComes_15 ?_
    refine lv_dup_x1 hx hb dX4_actComes_18 rfl rfl ?_
    refine lv_iconst (v := 1) hx hb dX4_actComes_19 (by decide) ?_
    refine lv_iadd hx hb dX4_actComes_20 ?_
    refine lv_tope (y := nI (bg + 1)) (nI_1 _) ?_
    refine rp hf hk hw hinX0 tyX0 tyX0_ok nmX0 1 rfl rfl 3 (by decide) w_0 rfl (rfl) rfl (Nat.le_of_ble_eq_true rfl) dX4_actComes_21 (W' := [cob kr 5 [], cob oa 0 [.int an, .int ap, .int ab, .int (nI (bg + 1)), .ref lbd], cin g lbd 30 bod]) rfl (fun H locs hw => ?_)
    refine lv_bipush (v := 13) hx hb dX4_actComes_24 (by decide) ?_
    refine rsj hf hk hw 2 rfl (j := bg) (vp_in_nI (by omega) (by omega)) (nI_clamp (by omega)) dX4_actComes_26 (W' := [cob kr 5 [], cob oa 0 [.int an, .int ap, .int ab, .int (nI (bg + 1)), .ref lbd], cin g lbd 30 (upd bod bg 13)]) rfl (fun H locs hw => ?_)
    refine lv_aload_n hx hb dX4_actComes_27 rfl (lv_at hl 0 rfl) ?_
    refine lv_aload_n hx hb dX4_actComes_28 rfl (lv_at hl 1 rfl) ?_
    refine lv_iload_n hx hb dX4_actComes_29 rfl (lv_at hl 2 rfl) ?_
    refine mcU hf hk hst hw (c_X4_actWalks_5 l g kr oa lbd an ap ab (bg + 1) (upd bod bg 13) x (by first | omega | ((repeat apply tr1_le); dsimp only; omega))) (va_cwU 2 hts gX4_actComes_X4_actWalks_u35X5 rfl rfl rfl rfl hdU_LightMan_Kind_actWalks ⟨Nat.le_of_ble_eq_true rfl, Nat.le_of_ble_eq_true rfl⟩) [0, 1, 2] rfl rfl 0 rfl rfl rfl hl.1 rfl (Nat.le_of_ble_eq_true rfl) dX4_actComes_30 ⟨Nat.zero_le _, Nat.zero_le _⟩ (W' := [cob kr 5 [], cob oa 0 [.int an, .int ap, .int ab, .int (nI (tr1 (tr1 (tr1 ((bg + 1), (upd bod bg 13)) 11) 30) 10).1), .ref lbd], cin g lbd 30 ((tr1 (tr1 (tr1 ((bg + 1), (upd bod bg 13)) 11) 30) 10).2)]) rfl (fun H locs hw => ?_)
    refine lv_sipush (v := 200) hx hb dX4_actComes_33 (by decide) ?_
    refine lv_ixor hx hb dX4_actComes_36 ?_
    have h1 : tr1 (bg, bod) 13 = (bg + 1, upd bod bg 13) := if_neg c_1
    exact re_i hf hr hlk hw (rfl) (by simp only [h1, pr_eta]) dX4_actComes_37
abbrev rmX4_actComes_9 : Room := { frames := 5, cells := 0, slots := 0, locals := 110 }
set_option maxHeartbeats 4000000 in
set_option maxRecDepth 100000 in
theorem c_X4_actComes_9 (l : Launch) (g : GG) (kr : Nat) (oa : Nat) (lbd : Nat) (an : Int32) (ap : Int32) (ab : Int32) (bg : Nat) (bod : Nat → Int32) (x : Int32) (hbg : bg ≤ 30) : mt l g yX4_actComes wsX4_actComes rmX4_actComes_9 [.ref kr, .ref oa, .int x] [cob kr 9 [], cob oa 0 [.int an, .int ap, .int ab, .int (nI bg), .ref lbd], cin g lbd 30 bod] (some (.int (((((((x * 3) - an) * 2) ^^^ 9) + (ap * 6)) - ((((ap * 3) - an) * 2) ^^^ 9)) ^^^ 200))) [cob kr 9 [], cob oa 0 [.int an, .int ap, .int ab, .int (nI (tr1 (tr1 (tr1 (tr1 (tr1 (tr1 (tr1 (tr1 (tr1 (bg, bod) 13) 41) 11) 40) 30) 10) 40) 30) 10).1), .ref lbd], cin g lbd 30 ((tr1 (tr1 (tr1 (tr1 (tr1 (tr1 (tr1 (tr1 (tr1 (bg, bod) 13) 41) 11) 40) 30) 10) 40) 30) 10).2)] := by
  refine mt.of (cc := cX4_actComes) (nL := 3) (ret := (some .int)) (own := RX4) (by decide +kernel) rfl rfl (show ([kr, oa, lbd] : List Nat) = [kr, oa, lbd] from rfl) (Nat.le_of_ble_eq_true rfl) (fun p e s m below meth c hf hr hlk _ hk hst hw ls hl => ?_)
  have hx := hf.1
  have hb := hf.2.1
  have hts := hf.2.2.2.2
  have hl : lv_has ls 3 [(0, .ref kr), (1, .ref oa), (2, .int x)] := hl
  have hinX0 : ∀ w ∈ u_ws RX0 TX0 5, w ∈ wsX4_actComes := fun w h => List.mem_cons_of_mem _ (List.mem_append_right _ h)
  have w_0 : Cond.fieldLink RX4 9 "LightMan$Acting" "began" "I" ∈ wsX4_actComes := List.mem_of_getElem? (i := 1) rfl
  have w_1 : Cond.code yX4_actWalks cX4_actWalks 3 (some .int) ∈ wsX4_actComes := List.mem_of_getElem? (i := 8) rfl
  have w_2 : Cond.fieldLink RX4 15 "LightMan$Acting" "bodies" "[I" ∈ wsX4_actComes := List.mem_of_getElem? (i := 2) rfl
  refine lv_aload_n hx hb dX4_actComes_0 rfl (lv_at hl 1 rfl) ?_
  refine rg hf hk hw hinX0 1 rfl rfl 3 (by decide) w_0 rfl dX4_actComes_1 ?_
  refine lv_bipush (v := 30) hx hb dX4_actComes_4 (by decide) ?_
  refine lv_icmp_ge (tgt := 27) hx hb dX4_actComes_6 (by decide) (fun c_1 => ?_) (fun c_1 => ?_)
  · refine lv_aload_n hx hb dX4_actComes_27 rfl (lv_at hl 0 rfl) ?_
    refine lv_aload_n hx hb dX4_actComes_28 rfl (lv_at hl 1 rfl) ?_
    refine lv_iload_n hx hb dX4_actComes_29 rfl (lv_at hl 2 rfl) ?_
    refine mcU hf hk hst hw (c_X9_actWalks_9 l g kr oa lbd an ap ab bg bod x (by first | omega | ((repeat apply tr1_le); dsimp only; omega))) (va_cwO 2 hts gX4_actComes_X9_actWalks_u35X9 rfl rfl rfl w_1 hdU_LightMan_Kind_actWalks ⟨Nat.le_of_ble_eq_true rfl, Nat.le_of_ble_eq_true rfl⟩) [0, 1, 2] rfl rfl 0 rfl rfl rfl hl.1 rfl (Nat.le_of_ble_eq_true rfl) dX4_actComes_30 ⟨Nat.zero_le _, Nat.zero_le _⟩ (W' := [cob kr 9 [], cob oa 0 [.int an, .int ap, .int ab, .int (nI (tr1 (tr1 (tr1 (tr1 (tr1 (tr1 (tr1 (tr1 (bg, bod) 41) 11) 40) 30) 10) 40) 30) 10).1), .ref lbd], cin g lbd 30 ((tr1 (tr1 (tr1 (tr1 (tr1 (tr1 (tr1 (tr1 (bg, bod) 41) 11) 40) 30) 10) 40) 30) 10).2)]) rfl (fun H locs hw => ?_)
    refine lv_sipush (v := 200) hx hb dX4_actComes_33 (by decide) ?_
    refine lv_ixor hx hb dX4_actComes_36 ?_
    have h1 : tr1 (bg, bod) 13 = (bg, bod) := if_pos c_1
    exact re_i hf hr hlk hw (rfl) (by simp only [h1, pr_eta]) dX4_actComes_37
  · have hb30 : bg < 30 := Nat.not_le.mp (fun h => c_1 ((nI_leI (a := 30) (by omega) (by omega)).mpr h))
    refine lv_aload_n hx hb dX4_actComes_9 rfl (lv_at hl 1 rfl) ?_
    refine rg hf hk hw hinX0 1 rfl rfl 4 (by decide) w_2 rfl dX4_actComes_10 ?_
    refine lv_aload_n hx hb dX4_actComes_13 rfl (lv_at hl 1 rfl) ?_
    refine lv_dup hx hb dX4_actComes_14 rfl ?_
    refine rg hf hk hw hinX0 1 rfl rfl 3 (by decide) w_0 rfl dX4_actComes_15 ?_
    refine lv_dup_x1 hx hb dX4_actComes_18 rfl rfl ?_
    refine lv_iconst (v := 1) hx hb dX4_actComes_19 (by decide) ?_
    refine lv_iadd hx hb dX4_actComes_20 ?_
    refine lv_tope (y := nI (bg + 1)) (nI_1 _) ?_
    refine rp hf hk hw hinX0 tyX0 tyX0_ok nmX0 1 rfl rfl 3 (by decide) w_0 rfl (rfl) rfl (Nat.le_of_ble_eq_true rfl) dX4_actComes_21 (W' := [cob kr 9 [], cob oa 0 [.int an, .int ap, .int ab, .int (nI (bg + 1)), .ref lbd], cin g lbd 30 bod]) rfl (fun H locs hw => ?_)
    refine lv_bipush (v := 13) hx hb dX4_actComes_24 (by decide) ?_
    refine rsj hf hk hw 2 rfl (j := bg) (vp_in_nI (by omega) (by omega)) (nI_clamp (by omega)) dX4_actComes_26 (W' := [cob kr 9 [], cob oa 0 [.int an, .int ap, .int ab, .int (nI (bg + 1)), .ref lbd], cin g lbd 30 (upd bod bg 13)]) rfl (fun H locs hw => ?_)
    refine lv_aload_n hx hb dX4_actComes_27 rfl (lv_at hl 0 rfl) ?_
    refine lv_aload_n hx hb dX4_actComes_28 rfl (lv_at hl 1 rfl) ?_
    refine lv_iload_n hx hb dX4_actComes_29 rfl (lv_at hl 2 rfl) ?_
    refine mcU hf hk hst hw (c_X9_actWalks_9 l g kr oa lbd an ap ab (bg + 1) (upd bod bg 13) x (by first | omega | ((repeat apply tr1_le); dsimp only; omega))) (va_cwO 2 hts gX4_actComes_X9_actWalks_u35X9 rfl rfl rfl w_1 hdU_LightMan_Kind_actWalks ⟨Nat.le_of_ble_eq_true rfl, Nat.le_of_ble_eq_true rfl⟩) [0, 1, 2] rfl rfl 0 rfl rfl rfl hl.1 rfl (Nat.le_of_ble_eq_true rfl) dX4_actComes_30 ⟨Nat.zero_le _, Nat.zero_le _⟩ (W' := [cob kr 9 [], cob oa 0 [.int an, .int ap, .int ab, .int (nI (tr1 (tr1 (tr1 (tr1 (tr1 (tr1 (tr1 (tr1 ((bg + 1), (upd bod bg 13)) 41) 11) 40) 30) 10) 40) 30) 10).1), .ref lbd], cin g lbd 30 ((tr1 (tr1 (tr1 (tr1 (tr1 (tr1 (tr1 (tr1 ((bg + 1), (upd bod bg 13)) 41) 11) 40) 30) 10) 40) 30) 10).2)]) rfl (fun H locs hw => ?_)
    refine lv_sipush (v := 200) hx hb dX4_actComes_33 (by decide) ?_
    refine lv_ixor hx hb dX4_actComes_36 ?_
    have h1 : tr1 (bg, bod) 13 = (bg + 1, upd bod bg 13) := if_neg c_1
    exact re_i hf hr hlk hw (rfl) (by simp only [h1, pr_eta]) dX4_actComes_37
abbrev rmX4_actComes_1 : Room := { frames := 2, cells := 0, slots := 0, locals := 44 }
set_option maxHeartbeats 4000000 in
set_option maxRecDepth 100000 in
theorem c_X4_actComes_1 (l : Launch) (g : GG) (kr : Nat) (oa : Nat) (lbd : Nat) (an : Int32) (ap : Int32) (ab : Int32) (bg : Nat) (bod : Nat → Int32) (x : Int32) (hbg : bg ≤ 30) : mt l g yX4_actComes wsX4_actComes rmX4_actComes_1 [.ref kr, .ref oa, .int x] [cob kr 1 [], cob oa 0 [.int an, .int ap, .int ab, .int (nI bg), .ref lbd], cin g lbd 30 bod] (some (.int ((((x * 3) - an) + (ap * 6)) ^^^ 200))) [cob kr 1 [], cob oa 0 [.int an, .int ap, .int ab, .int (nI (tr1 (tr1 (tr1 (bg, bod) 13) 11) 10).1), .ref lbd], cin g lbd 30 ((tr1 (tr1 (tr1 (bg, bod) 13) 11) 10).2)] := by
  refine mt.of (cc := cX4_actComes) (nL := 3) (ret := (some .int)) (own := RX4) (by decide +kernel) rfl rfl (show ([kr, oa, lbd] : List Nat) = [kr, oa, lbd] from rfl) (Nat.le_of_ble_eq_true rfl) (fun p e s m below meth c hf hr hlk _ hk hst hw ls hl => ?_)
  have hx := hf.1
  have hb := hf.2.1
  have hts := hf.2.2.2.2
  have hl : lv_has ls 3 [(0, .ref kr), (1, .ref oa), (2, .int x)] := hl
  have hinX0 : ∀ w ∈ u_ws RX0 TX0 5, w ∈ wsX4_actComes := fun w h => List.mem_cons_of_mem _ (List.mem_append_right _ h)
  have w_0 : Cond.fieldLink RX4 9 "LightMan$Acting" "began" "I" ∈ wsX4_actComes := List.mem_of_getElem? (i := 1) rfl
  have w_1 : Cond.fieldLink RX4 15 "LightMan$Acting" "bodies" "[I" ∈ wsX4_actComes := List.mem_of_getElem? (i := 2) rfl
  refine lv_aload_n hx hb dX4_actComes_0 rfl (lv_at hl 1 rfl) ?_
  refine rg hf hk hw hinX0 1 rfl rfl 3 (by decide) w_0 rfl dX4_actComes_1 ?_
  refine lv_bipush (v := 30) hx hb dX4_actComes_4 (by decide) ?_
  refine lv_icmp_ge (tgt := 27) hx hb dX4_actComes_6 (by decide) (fun c_1 => ?_) (fun c_1 => ?_)
  · refine lv_aload_n hx hb dX4_actComes_27 rfl (lv_at hl 0 rfl) ?_
    refine lv_aload_n hx hb dX4_actComes_28 rfl (lv_at hl 1 rfl) ?_
    refine lv_iload_n hx hb dX4_actComes_29 rfl (lv_at hl 2 rfl) ?_
    refine mcU hf hk hst hw (c_X4_actWalks_1 l g kr oa lbd an ap ab bg bod x (by first | omega | ((repeat apply tr1_le); dsimp only; omega))) (va_cwU 2 hts gX4_actComes_X4_actWalks_u35X1 rfl rfl rfl rfl hdU_LightMan_Kind_actWalks ⟨Nat.le_of_ble_eq_true rfl, Nat.le_of_ble_eq_true rfl⟩) [0, 1, 2] rfl rfl 0 rfl rfl rfl hl.1 rfl (Nat.le_of_ble_eq_true rfl) dX4_actComes_30 ⟨Nat.zero_le _, Nat.zero_le _⟩ (W' := [cob kr 1 [], cob oa 0 [.int an, .int ap, .int ab, .int (nI (tr1 (tr1 (bg, bod) 11) 10).1), .ref lbd], cin g lbd 30 ((tr1 (tr1 (bg, bod) 11) 10).2)]) rfl (fun H locs hw => ?_)
    refine lv_sipush (v := 200) hx hb dX4_actComes_33 (by decide) ?_
    refine lv_ixor hx hb dX4_actComes_36 ?_
    have h1 : tr1 (bg, bod) 13 = (bg, bod) := if_pos c_1
    exact re_i hf hr hlk hw (rfl) (by simp only [h1, pr_eta]) dX4_actComes_37
  · have hb30 : bg < 30 := Nat.not_le.mp (fun h => c_1 ((nI_leI (a := 30) (by omega) (by omega)).mpr h))
    refine lv_aload_n hx hb dX4_actComes_9 rfl (lv_at hl 1 rfl) ?_
    refine rg hf hk hw hinX0 1 rfl rfl 4 (by decide) w_1 rfl dX4_actComes_10 ?_
    refine lv_aload_n hx hb dX4_actComes_13 rfl (lv_at hl 1 rfl) ?_
    refine lv_dup hx hb dX4_actComes_14 rfl ?_
    refine rg hf hk hw hinX0 1 rfl rfl 3 (by decide) w_0 rfl dX4_actComes_15 ?_
    refine lv_dup_x1 hx hb dX4_actComes_18 rfl rfl ?_
    refine lv_iconst (v := 1) hx hb dX4_actComes_19 (by decide) ?_
    refine lv_iadd hx hb dX4_actComes_20 ?_
    refine lv_tope (y := nI (bg + 1)) (nI_1 _) ?_
    refine rp hf hk hw hinX0 tyX0 tyX0_ok nmX0 1 rfl rfl 3 (by decide) w_0 rfl (rfl) rfl (Nat.le_of_ble_eq_true rfl) dX4_actComes_21 (W' := [cob kr 1 [], cob oa 0 [.int an, .int ap, .int ab, .int (nI (bg + 1)), .ref lbd], cin g lbd 30 bod]) rfl (fun H locs hw => ?_)
    refine lv_bipush (v := 13) hx hb dX4_actComes_24 (by decide) ?_
    refine rsj hf hk hw 2 rfl (j := bg) (vp_in_nI (by omega) (by omega)) (nI_clamp (by omega)) dX4_actComes_26 (W' := [cob kr 1 [], cob oa 0 [.int an, .int ap, .int ab, .int (nI (bg + 1)), .ref lbd], cin g lbd 30 (upd bod bg 13)]) rfl (fun H locs hw => ?_)
    refine lv_aload_n hx hb dX4_actComes_27 rfl (lv_at hl 0 rfl) ?_
    refine lv_aload_n hx hb dX4_actComes_28 rfl (lv_at hl 1 rfl) ?_
    refine lv_iload_n hx hb dX4_actComes_29 rfl (lv_at hl 2 rfl) ?_
    refine mcU hf hk hst hw (c_X4_actWalks_1 l g kr oa lbd an ap ab (bg + 1) (upd bod bg 13) x (by first | omega | ((repeat apply tr1_le); dsimp only; omega))) (va_cwU 2 hts gX4_actComes_X4_actWalks_u35X1 rfl rfl rfl rfl hdU_LightMan_Kind_actWalks ⟨Nat.le_of_ble_eq_true rfl, Nat.le_of_ble_eq_true rfl⟩) [0, 1, 2] rfl rfl 0 rfl rfl rfl hl.1 rfl (Nat.le_of_ble_eq_true rfl) dX4_actComes_30 ⟨Nat.zero_le _, Nat.zero_le _⟩ (W' := [cob kr 1 [], cob oa 0 [.int an, .int ap, .int ab, .int (nI (tr1 (tr1 ((bg + 1), (upd bod bg 13)) 11) 10).1), .ref lbd], cin g lbd 30 ((tr1 (tr1 ((bg + 1), (upd bod bg 13)) 11) 10).2)]) rfl (fun H locs hw => ?_)
    refine lv_sipush (v := 200) hx hb dX4_actComes_33 (by decide) ?_
    refine lv_ixor hx hb dX4_actComes_36 ?_
    have h1 : tr1 (bg, bod) 13 = (bg + 1, upd bod bg 13) := if_neg c_1
    exact re_i hf hr hlk hw (rfl) (by simp only [h1, pr_eta]) dX4_actComes_37
theorem hdP_X4_actComes : yX4_actComes.name ≠ "<init>" ∧ (parseMethodDescriptor yX4_actComes.desc).map (fun d => d.parameters.length) = some 2 := by decide +kernel
theorem hdU_LightMan_Mourner_actParts : "LightMan$Kind" ≠ "java/lang/invoke/MethodHandle" ∧ "LightMan$Kind" ≠ "java/lang/invoke/VarHandle" ∧ (parseMethodDescriptor (⟨"LightMan$Mourner", "actParts", "(LLightMan$Acting;I)I"⟩ : MethodName).desc).map (fun d => d.parameters.length) = some 2 := by decide +kernel
abbrev rmX5_actComes_5 : Room := { frames := 4, cells := 0, slots := 0, locals := 88 }
set_option maxHeartbeats 4000000 in
set_option maxRecDepth 100000 in
theorem c_X5_actComes_5 (l : Launch) (g : GG) (kr : Nat) (oa : Nat) (lbd : Nat) (an : Int32) (ap : Int32) (ab : Int32) (bg : Nat) (bod : Nat → Int32) (x : Int32) (hbg : bg ≤ 30) : mt l g yX5_actComes wsX5_actComes rmX5_actComes_5 [.ref kr, .ref oa, .int x] [cob kr 5 [], cob oa 0 [.int an, .int ap, .int ab, .int (nI bg), .ref lbd], cin g lbd 30 bod] (some (.int ((((((x * 3) - an) * 2) + (ap * 6)) ^^^ 200) + (prt an ap an)))) [cob kr 5 [], cob oa 0 [.int an, .int ap, .int (brk an ap ab), .int (nI (tr1 (tr1 (tr1 (tr1 (tr1 (tr1 (bg, bod) 31) 13) 11) 30) 10) 12).1), .ref lbd], cin g lbd 30 ((tr1 (tr1 (tr1 (tr1 (tr1 (tr1 (bg, bod) 31) 13) 11) 30) 10) 12).2)] := by
  refine mt.of (cc := cX5_actComes) (nL := 3) (ret := (some .int)) (own := RX5) (by decide +kernel) rfl rfl (show ([kr, oa, lbd] : List Nat) = [kr, oa, lbd] from rfl) (Nat.le_of_ble_eq_true rfl) (fun p e s m below meth c hf hr hlk _ hk hst hw ls hl => ?_)
  have hx := hf.1
  have hb := hf.2.1
  have hts := hf.2.2.2.2
  have hl : lv_has ls 3 [(0, .ref kr), (1, .ref oa), (2, .int x)] := hl
  have hinX0 : ∀ w ∈ u_ws RX0 TX0 5, w ∈ wsX5_actComes := fun w h => List.mem_cons_of_mem _ (List.mem_append_right _ h)
  have w_0 : Cond.fieldLink RX5 21 "LightMan$Acting" "began" "I" ∈ wsX5_actComes := List.mem_of_getElem? (i := 1) rfl
  have w_1 : Cond.fieldLink RX5 38 "LightMan$Acting" "number" "I" ∈ wsX5_actComes := List.mem_of_getElem? (i := 3) rfl
  have w_2 : Cond.fieldLink RX5 27 "LightMan$Acting" "bodies" "[I" ∈ wsX5_actComes := List.mem_of_getElem? (i := 2) rfl
  refine lv_aload_n hx hb dX5_actComes_0 rfl (lv_at hl 1 rfl) ?_
  refine rg hf hk hw hinX0 1 rfl rfl 3 (by decide) w_0 rfl dX5_actComes_1 ?_
  refine lv_bipush (v := 30) hx hb dX5_actComes_4 (by decide) ?_
  refine lv_icmp_ge (tgt := 27) hx hb dX5_actComes_6 (by decide) (fun c_1 => ?_) (fun c_1 => ?_)
  · refine lv_aload_n hx hb dX5_actComes_27 rfl (lv_at hl 0 rfl) ?_
    refine lv_aload_n hx hb dX5_actComes_28 rfl (lv_at hl 1 rfl) ?_
    refine lv_iload_n hx hb dX5_actComes_29 rfl (lv_at hl 2 rfl) ?_
    refine mcP hf hk hst hw (c_X4_actComes_5 l g kr oa lbd an ap ab bg bod x (by first | omega | ((repeat apply tr1_le); dsimp only; omega))) (va_cwSU 2 hts gX5_actComes_X4_actComes_s35 rfl rfl rfl hdP_X4_actComes ⟨Nat.le_of_ble_eq_true rfl, Nat.le_of_ble_eq_true rfl⟩) [0, 1, 2] rfl rfl 0 rfl rfl rfl hl.1 rfl (Nat.le_of_ble_eq_true rfl) dX5_actComes_30 ⟨Nat.zero_le _, Nat.zero_le _⟩ (W' := [cob kr 5 [], cob oa 0 [.int an, .int ap, .int ab, .int (nI (tr1 (tr1 (tr1 (tr1 (bg, bod) 13) 11) 30) 10).1), .ref lbd], cin g lbd 30 ((tr1 (tr1 (tr1 (tr1 (bg, bod) 13) 11) 30) 10).2)]) rfl (fun H locs hw => ?_)
    refine lv_aload_n hx hb dX5_actComes_33 rfl (lv_at hl 0 rfl) ?_
    refine lv_aload_n hx hb dX5_actComes_34 rfl (lv_at hl 1 rfl) ?_
    refine lv_aload_n hx hb dX5_actComes_35 rfl (lv_at hl 1 rfl) ?_
    refine rg hf hk hw hinX0 1 rfl rfl 0 (by decide) w_1 rfl dX5_actComes_36 ?_
    refine mcU hf hk hst hw (c_X4_actParts l g kr oa lbd an ap ab ((tr1 (tr1 (tr1 (tr1 (bg, bod) 13) 11) 30) 10).1) ((tr1 (tr1 (tr1 (tr1 (bg, bod) 13) 11) 30) 10).2) an (by first | omega | ((repeat apply tr1_le); dsimp only; omega))) (va_cwU 2 hts gX5_actComes_X4_actParts_u41X5 rfl rfl rfl rfl hdU_LightMan_Mourner_actParts ⟨Nat.le_of_ble_eq_true rfl, Nat.le_of_ble_eq_true rfl⟩) [1, 2] rfl rfl 0 rfl rfl rfl hl.1 rfl (Nat.le_of_ble_eq_true rfl) dX5_actComes_39 ⟨Nat.zero_le _, Nat.zero_le _⟩ (W' := [cob kr 5 [], cob oa 0 [.int an, .int ap, .int (brk an ap ab), .int (nI (tr1 (((tr1 (tr1 (tr1 (tr1 (bg, bod) 13) 11) 30) 10).1), ((tr1 (tr1 (tr1 (tr1 (bg, bod) 13) 11) 30) 10).2)) 12).1), .ref lbd], cin g lbd 30 ((tr1 (((tr1 (tr1 (tr1 (tr1 (bg, bod) 13) 11) 30) 10).1), ((tr1 (tr1 (tr1 (tr1 (bg, bod) 13) 11) 30) 10).2)) 12).2)]) rfl (fun H locs hw => ?_)
    refine lv_iadd hx hb dX5_actComes_42 ?_
    have h1 : tr1 (bg, bod) 31 = (bg, bod) := if_pos c_1
    exact re_i hf hr hlk hw (rfl) (by simp only [h1, pr_eta]) dX5_actComes_43
  · have hb30 : bg < 30 := Nat.not_le.mp (fun h => c_1 ((nI_leI (a := 30) (by omega) (by omega)).mpr h))
    refine lv_aload_n hx hb dX5_actComes_9 rfl (lv_at hl 1 rfl) ?_
    refine rg hf hk hw hinX0 1 rfl rfl 4 (by decide) w_2 rfl dX5_actComes_10 ?_
    refine lv_aload_n hx hb dX5_actComes_13 rfl (lv_at hl 1 rfl) ?_
    refine lv_dup hx hb dX5_actComes_14 rfl ?_
    refine rg hf hk hw hinX0 1 rfl rfl 3 (by decide) w_0 rfl dX5_actComes_15 ?_
    refine lv_dup_x1 hx hb dX5_actComes_18 rfl rfl ?_
    refine lv_iconst (v := 1) hx hb dX5_actComes_19 (by decide) ?_
    refine lv_iadd hx hb dX5_actComes_20 ?_
    refine lv_tope (y := nI (bg + 1)) (nI_1 _) ?_
    refine rp hf hk hw hinX0 tyX0 tyX0_ok nmX0 1 rfl rfl 3 (by decide) w_0 rfl (rfl) rfl (Nat.le_of_ble_eq_true rfl) dX5_actComes_21 (W' := [cob kr 5 [], cob oa 0 [.int an, .int ap, .int ab, .int (nI (bg + 1)), .ref lbd], cin g lbd 30 bod]) rfl (fun H locs hw => ?_)
    refine lv_bipush (v := 31) hx hb dX5_actComes_24 (by decide) ?_
    refine rsj hf hk hw 2 rfl (j := bg) (vp_in_nI (by omega) (by omega)) (nI_clamp (by omega)) dX5_actComes_26 (W' := [cob kr 5 [], cob oa 0 [.int an, .int ap, .int ab, .int (nI (bg + 1)), .ref lbd], cin g lbd 30 (upd bod bg 31)]) rfl (fun H locs hw => ?_)
    refine lv_aload_n hx hb dX5_actComes_27 rfl (lv_at hl 0 rfl) ?_
    refine lv_aload_n hx hb dX5_actComes_28 rfl (lv_at hl 1 rfl) ?_
    refine lv_iload_n hx hb dX5_actComes_29 rfl (lv_at hl 2 rfl) ?_
    refine mcP hf hk hst hw (c_X4_actComes_5 l g kr oa lbd an ap ab (bg + 1) (upd bod bg 31) x (by first | omega | ((repeat apply tr1_le); dsimp only; omega))) (va_cwSU 2 hts gX5_actComes_X4_actComes_s35 rfl rfl rfl hdP_X4_actComes ⟨Nat.le_of_ble_eq_true rfl, Nat.le_of_ble_eq_true rfl⟩) [0, 1, 2] rfl rfl 0 rfl rfl rfl hl.1 rfl (Nat.le_of_ble_eq_true rfl) dX5_actComes_30 ⟨Nat.zero_le _, Nat.zero_le _⟩ (W' := [cob kr 5 [], cob oa 0 [.int an, .int ap, .int ab, .int (nI (tr1 (tr1 (tr1 (tr1 ((bg + 1), (upd bod bg 31)) 13) 11) 30) 10).1), .ref lbd], cin g lbd 30 ((tr1 (tr1 (tr1 (tr1 ((bg + 1), (upd bod bg 31)) 13) 11) 30) 10).2)]) rfl (fun H locs hw => ?_)
    refine lv_aload_n hx hb dX5_actComes_33 rfl (lv_at hl 0 rfl) ?_
    refine lv_aload_n hx hb dX5_actComes_34 rfl (lv_at hl 1 rfl) ?_
    refine lv_aload_n hx hb dX5_actComes_35 rfl (lv_at hl 1 rfl) ?_
    refine rg hf hk hw hinX0 1 rfl rfl 0 (by decide) w_1 rfl dX5_actComes_36 ?_
    refine mcU hf hk hst hw (c_X4_actParts l g kr oa lbd an ap ab ((tr1 (tr1 (tr1 (tr1 ((bg + 1), (upd bod bg 31)) 13) 11) 30) 10).1) ((tr1 (tr1 (tr1 (tr1 ((bg + 1), (upd bod bg 31)) 13) 11) 30) 10).2) an (by first | omega | ((repeat apply tr1_le); dsimp only; omega))) (va_cwU 2 hts gX5_actComes_X4_actParts_u41X5 rfl rfl rfl rfl hdU_LightMan_Mourner_actParts ⟨Nat.le_of_ble_eq_true rfl, Nat.le_of_ble_eq_true rfl⟩) [1, 2] rfl rfl 0 rfl rfl rfl hl.1 rfl (Nat.le_of_ble_eq_true rfl) dX5_actComes_39 ⟨Nat.zero_le _, Nat.zero_le _⟩ (W' := [cob kr 5 [], cob oa 0 [.int an, .int ap, .int (brk an ap ab), .int (nI (tr1 (((tr1 (tr1 (tr1 (tr1 ((bg + 1), (upd bod bg 31)) 13) 11) 30) 10).1), ((tr1 (tr1 (tr1 (tr1 ((bg + 1), (upd bod bg 31)) 13) 11) 30) 10).2)) 12).1), .ref lbd], cin g lbd 30 ((tr1 (((tr1 (tr1 (tr1 (tr1 ((bg + 1), (upd bod bg 31)) 13) 11) 30) 10).1), ((tr1 (tr1 (tr1 (tr1 ((bg + 1), (upd bod bg 31)) 13) 11) 30) 10).2)) 12).2)]) rfl (fun H locs hw => ?_)
    refine lv_iadd hx hb dX5_actComes_42 ?_
    have h1 : tr1 (bg, bod) 31 = (bg + 1, upd bod bg 31) := if_neg c_1
    exact re_i hf hr hlk hw (rfl) (by simp only [h1, pr_eta]) dX5_actComes_43
abbrev rmX5_actComes_9 : Room := { frames := 6, cells := 0, slots := 0, locals := 132 }
set_option maxHeartbeats 4000000 in
set_option maxRecDepth 100000 in
theorem c_X5_actComes_9 (l : Launch) (g : GG) (kr : Nat) (oa : Nat) (lbd : Nat) (an : Int32) (ap : Int32) (ab : Int32) (bg : Nat) (bod : Nat → Int32) (x : Int32) (hbg : bg ≤ 30) : mt l g yX5_actComes wsX5_actComes rmX5_actComes_9 [.ref kr, .ref oa, .int x] [cob kr 9 [], cob oa 0 [.int an, .int ap, .int ab, .int (nI bg), .ref lbd], cin g lbd 30 bod] (some (.int ((((((((x * 3) - an) * 2) ^^^ 9) + (ap * 6)) - ((((ap * 3) - an) * 2) ^^^ 9)) ^^^ 200) + (prt an ap an)))) [cob kr 9 [], cob oa 0 [.int an, .int ap, .int (brk an ap ab), .int (nI (tr1 (tr1 (tr1 (tr1 (tr1 (tr1 (tr1 (tr1 (tr1 (tr1 (tr1 (bg, bod) 31) 13) 41) 11) 40) 30) 10) 40) 30) 10) 12).1), .ref lbd], cin g lbd 30 ((tr1 (tr1 (tr1 (tr1 (tr1 (tr1 (tr1 (tr1 (tr1 (tr1 (tr1 (bg, bod) 31) 13) 41) 11) 40) 30) 10) 40) 30) 10) 12).2)] := by
  refine mt.of (cc := cX5_actComes) (nL := 3) (ret := (some .int)) (own := RX5) (by decide +kernel) rfl rfl (show ([kr, oa, lbd] : List Nat) = [kr, oa, lbd] from rfl) (Nat.le_of_ble_eq_true rfl) (fun p e s m below meth c hf hr hlk _ hk hst hw ls hl => ?_)
  have hx := hf.1
  have hb := hf.2.1
  have hts := hf.2.2.2.2
  have hl : lv_has ls 3 [(0, .ref kr), (1, .ref oa), (2, .int x)] := hl
  have hinX0 : ∀ w ∈ u_ws RX0 TX0 5, w ∈ wsX5_actComes := fun w h => List.mem_cons_of_mem _ (List.mem_append_right _ h)
  have w_0 : Cond.fieldLink RX5 21 "LightMan$Acting" "began" "I" ∈ wsX5_actComes := List.mem_of_getElem? (i := 1) rfl
  have w_1 : Cond.fieldLink RX5 38 "LightMan$Acting" "number" "I" ∈ wsX5_actComes := List.mem_of_getElem? (i := 3) rfl
  have w_2 : Cond.fieldLink RX5 27 "LightMan$Acting" "bodies" "[I" ∈ wsX5_actComes := List.mem_of_getElem? (i := 2) rfl
  refine lv_aload_n hx hb dX5_actComes_0 rfl (lv_at hl 1 rfl) ?_
  refine rg hf hk hw hinX0 1 rfl rfl 3 (by decide) w_0 rfl dX5_actComes_1 ?_
  refine lv_bipush (v := 30) hx hb dX5_actComes_4 (by decide) ?_
  refine lv_icmp_ge (tgt := 27) hx hb dX5_actComes_6 (by decide) (fun c_1 => ?_) (fun c_1 => ?_)
  · refine lv_aload_n hx hb dX5_actComes_27 rfl (lv_at hl 0 rfl) ?_
    refine lv_aload_n hx hb dX5_actComes_28 rfl (lv_at hl 1 rfl) ?_
    refine lv_iload_n hx hb dX5_actComes_29 rfl (lv_at hl 2 rfl) ?_
    refine mcP hf hk hst hw (c_X4_actComes_9 l g kr oa lbd an ap ab bg bod x (by first | omega | ((repeat apply tr1_le); dsimp only; omega))) (va_cwSU 2 hts gX5_actComes_X4_actComes_s35 rfl rfl rfl hdP_X4_actComes ⟨Nat.le_of_ble_eq_true rfl, Nat.le_of_ble_eq_true rfl⟩) [0, 1, 2] rfl rfl 0 rfl rfl rfl hl.1 rfl (Nat.le_of_ble_eq_true rfl) dX5_actComes_30 ⟨Nat.zero_le _, Nat.zero_le _⟩ (W' := [cob kr 9 [], cob oa 0 [.int an, .int ap, .int ab, .int (nI (tr1 (tr1 (tr1 (tr1 (tr1 (tr1 (tr1 (tr1 (tr1 (bg, bod) 13) 41) 11) 40) 30) 10) 40) 30) 10).1), .ref lbd], cin g lbd 30 ((tr1 (tr1 (tr1 (tr1 (tr1 (tr1 (tr1 (tr1 (tr1 (bg, bod) 13) 41) 11) 40) 30) 10) 40) 30) 10).2)]) rfl (fun H locs hw => ?_)
    refine lv_aload_n hx hb dX5_actComes_33 rfl (lv_at hl 0 rfl) ?_
    refine lv_aload_n hx hb dX5_actComes_34 rfl (lv_at hl 1 rfl) ?_
    refine lv_aload_n hx hb dX5_actComes_35 rfl (lv_at hl 1 rfl) ?_
    refine rg hf hk hw hinX0 1 rfl rfl 0 (by decide) w_1 rfl dX5_actComes_36 ?_
    refine mcU hf hk hst hw (c_X4_actParts l g kr oa lbd an ap ab ((tr1 (tr1 (tr1 (tr1 (tr1 (tr1 (tr1 (tr1 (tr1 (bg, bod) 13) 41) 11) 40) 30) 10) 40) 30) 10).1) ((tr1 (tr1 (tr1 (tr1 (tr1 (tr1 (tr1 (tr1 (tr1 (bg, bod) 13) 41) 11) 40) 30) 10) 40) 30) 10).2) an (by first | omega | ((repeat apply tr1_le); dsimp only; omega))) (va_cwU 2 hts gX5_actComes_X4_actParts_u41X9 rfl rfl rfl rfl hdU_LightMan_Mourner_actParts ⟨Nat.le_of_ble_eq_true rfl, Nat.le_of_ble_eq_true rfl⟩) [1, 2] rfl rfl 0 rfl rfl rfl hl.1 rfl (Nat.le_of_ble_eq_true rfl) dX5_actComes_39 ⟨Nat.zero_le _, Nat.zero_le _⟩ (W' := [cob kr 9 [], cob oa 0 [.int an, .int ap, .int (brk an ap ab), .int (nI (tr1 (((tr1 (tr1 (tr1 (tr1 (tr1 (tr1 (tr1 (tr1 (tr1 (bg, bod) 13) 41) 11) 40) 30) 10) 40) 30) 10).1), ((tr1 (tr1 (tr1 (tr1 (tr1 (tr1 (tr1 (tr1 (tr1 (bg, bod) 13) 41) 11) 40) 30) 10) 40) 30) 10).2)) 12).1), .ref lbd], cin g lbd 30 ((tr1 (((tr1 (tr1 (tr1 (tr1 (tr1 (tr1 (tr1 (tr1 (tr1 (bg, bod) 13) 41) 11) 40) 30) 10) 40) 30) 10).1), ((tr1 (tr1 (tr1 (tr1 (tr1 (tr1 (tr1 (tr1 (tr1 (bg, bod) 13) 41) 11) 40) 30) 10) 40) 30) 10).2)) 12).2)]) rfl (fun H locs hw => ?_)
    refine lv_iadd hx hb dX5_actComes_42 ?_
    have h1 : tr1 (bg, bod) 31 = (bg, bod) := if_pos c_1
    exact re_i hf hr hlk hw (rfl) (by simp only [h1, pr_eta]) dX5_actComes_43
  · have hb30 : bg < 30 := Nat.not_le.mp (fun h => c_1 ((nI_leI (a := 30) (by omega) (by omega)).mpr h))
    refine lv_aload_n hx hb dX5_actComes_9 rfl (lv_at hl 1 rfl) ?_
    refine rg hf hk hw hinX0 1 rfl rfl 4 (by decide) w_2 rfl dX5_actComes_10 ?_
    refine lv_aload_n hx hb dX5_actComes_13 rfl (lv_at hl 1 rfl) ?_
    refine lv_dup hx hb dX5_actComes_14 rfl ?_
    refine rg hf hk hw hinX0 1 rfl rfl 3 (by decide) w_0 rfl dX5_actComes_15 ?_
    refine lv_dup_x1 hx hb dX5_actComes_18 rfl rfl ?_
    refine lv_iconst (v := 1) hx hb dX5_actComes_19 (by decide) ?_
    refine lv_iadd hx hb dX5_actComes_20 ?_
    refine lv_tope (y := nI (bg + 1)) (nI_1 _) ?_
    refine rp hf hk hw hinX0 tyX0 tyX0_ok nmX0 1 rfl rfl 3 (by decide) w_0 rfl (rfl) rfl (Nat.le_of_ble_eq_true rfl) dX5_actComes_21 (W' := [cob kr 9 [], cob oa 0 [.int an, .int ap, .int ab, .int (nI (bg + 1)), .ref lbd], cin g lbd 30 bod]) rfl (fun H locs hw => ?_)
    refine lv_bipush (v := 31) hx hb dX5_actComes_24 (by decide) ?_
    refine rsj hf hk hw 2 rfl (j := bg) (vp_in_nI (by omega) (by omega)) (nI_clamp (by omega)) dX5_actComes_26 (W' := [cob kr 9 [], cob oa 0 [.int an, .int ap, .int ab, .int (nI (bg + 1)), .ref lbd], cin g lbd 30 (upd bod bg 31)]) rfl (fun H locs hw => ?_)
    refine lv_aload_n hx hb dX5_actComes_27 rfl (lv_at hl 0 rfl) ?_
    refine lv_aload_n hx hb dX5_actComes_28 rfl (lv_at hl 1 rfl) ?_
    refine lv_iload_n hx hb dX5_actComes_29 rfl (lv_at hl 2 rfl) ?_
    refine mcP hf hk hst hw (c_X4_actComes_9 l g kr oa lbd an ap ab (bg + 1) (upd bod bg 31) x (by first | omega | ((repeat apply tr1_le); dsimp only; omega))) (va_cwSU 2 hts gX5_actComes_X4_actComes_s35 rfl rfl rfl hdP_X4_actComes ⟨Nat.le_of_ble_eq_true rfl, Nat.le_of_ble_eq_true rfl⟩) [0, 1, 2] rfl rfl 0 rfl rfl rfl hl.1 rfl (Nat.le_of_ble_eq_true rfl) dX5_actComes_30 ⟨Nat.zero_le _, Nat.zero_le _⟩ (W' := [cob kr 9 [], cob oa 0 [.int an, .int ap, .int ab, .int (nI (tr1 (tr1 (tr1 (tr1 (tr1 (tr1 (tr1 (tr1 (tr1 ((bg + 1), (upd bod bg 31)) 13) 41) 11) 40) 30) 10) 40) 30) 10).1), .ref lbd], cin g lbd 30 ((tr1 (tr1 (tr1 (tr1 (tr1 (tr1 (tr1 (tr1 (tr1 ((bg + 1), (upd bod bg 31)) 13) 41) 11) 40) 30) 10) 40) 30) 10).2)]) rfl (fun H locs hw => ?_)
    refine lv_aload_n hx hb dX5_actComes_33 rfl (lv_at hl 0 rfl) ?_
    refine lv_aload_n hx hb dX5_actComes_34 rfl (lv_at hl 1 rfl) ?_
    refine lv_aload_n hx hb dX5_actComes_35 rfl (lv_at hl 1 rfl) ?_
    refine rg hf hk hw hinX0 1 rfl rfl 0 (by decide) w_1 rfl dX5_actComes_36 ?_
    refine mcU hf hk hst hw (c_X4_actParts l g kr oa lbd an ap ab ((tr1 (tr1 (tr1 (tr1 (tr1 (tr1 (tr1 (tr1 (tr1 ((bg + 1), (upd bod bg 31)) 13) 41) 11) 40) 30) 10) 40) 30) 10).1) ((tr1 (tr1 (tr1 (tr1 (tr1 (tr1 (tr1 (tr1 (tr1 ((bg + 1), (upd bod bg 31)) 13) 41) 11) 40) 30) 10) 40) 30) 10).2) an (by first | omega | ((repeat apply tr1_le); dsimp only; omega))) (va_cwU 2 hts gX5_actComes_X4_actParts_u41X9 rfl rfl rfl rfl hdU_LightMan_Mourner_actParts ⟨Nat.le_of_ble_eq_true rfl, Nat.le_of_ble_eq_true rfl⟩) [1, 2] rfl rfl 0 rfl rfl rfl hl.1 rfl (Nat.le_of_ble_eq_true rfl) dX5_actComes_39 ⟨Nat.zero_le _, Nat.zero_le _⟩ (W' := [cob kr 9 [], cob oa 0 [.int an, .int ap, .int (brk an ap ab), .int (nI (tr1 (((tr1 (tr1 (tr1 (tr1 (tr1 (tr1 (tr1 (tr1 (tr1 ((bg + 1), (upd bod bg 31)) 13) 41) 11) 40) 30) 10) 40) 30) 10).1), ((tr1 (tr1 (tr1 (tr1 (tr1 (tr1 (tr1 (tr1 (tr1 ((bg + 1), (upd bod bg 31)) 13) 41) 11) 40) 30) 10) 40) 30) 10).2)) 12).1), .ref lbd], cin g lbd 30 ((tr1 (((tr1 (tr1 (tr1 (tr1 (tr1 (tr1 (tr1 (tr1 (tr1 ((bg + 1), (upd bod bg 31)) 13) 41) 11) 40) 30) 10) 40) 30) 10).1), ((tr1 (tr1 (tr1 (tr1 (tr1 (tr1 (tr1 (tr1 (tr1 ((bg + 1), (upd bod bg 31)) 13) 41) 11) 40) 30) 10) 40) 30) 10).2)) 12).2)]) rfl (fun H locs hw => ?_)
    refine lv_iadd hx hb dX5_actComes_42 ?_
    have h1 : tr1 (bg, bod) 31 = (bg + 1, upd bod bg 31) := if_neg c_1
    exact re_i hf hr hlk hw (rfl) (by simp only [h1, pr_eta]) dX5_actComes_43
abbrev rmX1_actComes_1 : Room := { frames := 3, cells := 0, slots := 0, locals := 66 }
set_option maxHeartbeats 4000000 in
set_option maxRecDepth 100000 in
theorem c_X1_actComes_1 (l : Launch) (g : GG) (kr : Nat) (oa : Nat) (lbd : Nat) (an : Int32) (ap : Int32) (ab : Int32) (bg : Nat) (bod : Nat → Int32) (x : Int32) (hbg : bg ≤ 30) : mt l g yX1_actComes wsX1_actComes rmX1_actComes_1 [.ref kr, .ref oa, .int x] [cob kr 1 [], cob oa 0 [.int an, .int ap, .int ab, .int (nI bg), .ref lbd], cin g lbd 30 bod] (some (.int (((((x * 3) - an) + (ap * 6)) ^^^ 200) - 8))) [cob kr 1 [], cob oa 0 [.int an, .int ap, .int ab, .int (nI (tr1 (tr1 (tr1 (tr1 (bg, bod) 60) 13) 11) 10).1), .ref lbd], cin g lbd 30 ((tr1 (tr1 (tr1 (tr1 (bg, bod) 60) 13) 11) 10).2)] := by
  refine mt.of (cc := cX1_actComes) (nL := 3) (ret := (some .int)) (own := RX1) (by decide +kernel) rfl rfl (show ([kr, oa, lbd] : List Nat) = [kr, oa, lbd] from rfl) (Nat.le_of_ble_eq_true rfl) (fun p e s m below meth c hf hr hlk _ hk hst hw ls hl => ?_)
  have hx := hf.1
  have hb := hf.2.1
  have hts := hf.2.2.2.2
  have hl : lv_has ls 3 [(0, .ref kr), (1, .ref oa), (2, .int x)] := hl
  have hinX0 : ∀ w ∈ u_ws RX0 TX0 5, w ∈ wsX1_actComes := fun w h => List.mem_cons_of_mem _ (List.mem_append_right _ h)
  have w_0 : Cond.fieldLink RX1 21 "LightMan$Acting" "began" "I" ∈ wsX1_actComes := List.mem_of_getElem? (i := 1) rfl
  have w_1 : Cond.fieldLink RX1 27 "LightMan$Acting" "bodies" "[I" ∈ wsX1_actComes := List.mem_of_getElem? (i := 2) rfl
  refine lv_aload_n hx hb dX1_actComes_0 rfl (lv_at hl 1 rfl) ?_
  refine rg hf hk hw hinX0 1 rfl rfl 3 (by decide) w_0 rfl dX1_actComes_1 ?_
  refine lv_bipush (v := 30) hx hb dX1_actComes_4 (by decide) ?_
  refine lv_icmp_ge (tgt := 27) hx hb dX1_actComes_6 (by decide) (fun c_1 => ?_) (fun c_1 => ?_)
  · refine lv_aload_n hx hb dX1_actComes_27 rfl (lv_at hl 0 rfl) ?_
    refine lv_aload_n hx hb dX1_actComes_28 rfl (lv_at hl 1 rfl) ?_
    refine lv_iload_n hx hb dX1_actComes_29 rfl (lv_at hl 2 rfl) ?_
    refine mcP hf hk hst hw (c_X4_actComes_1 l g kr oa lbd an ap ab bg bod x (by first | omega | ((repeat apply tr1_le); dsimp only; omega))) (va_cwSU 2 hts gX1_actComes_X4_actComes_s47 rfl rfl rfl hdP_X4_actComes ⟨Nat.le_of_ble_eq_true rfl, Nat.le_of_ble_eq_true rfl⟩) [0, 1, 2] rfl rfl 0 rfl rfl rfl hl.1 rfl (Nat.le_of_ble_eq_true rfl) dX1_actComes_30 ⟨Nat.zero_le _, Nat.zero_le _⟩ (W' := [cob kr 1 [], cob oa 0 [.int an, .int ap, .int ab, .int (nI (tr1 (tr1 (tr1 (bg, bod) 13) 11) 10).1), .ref lbd], cin g lbd 30 ((tr1 (tr1 (tr1 (bg, bod) 13) 11) 10).2)]) rfl (fun H locs hw => ?_)
    refine lv_bipush (v := 8) hx hb dX1_actComes_33 (by decide) ?_
    refine lv_isub hx hb dX1_actComes_35 ?_
    have h1 : tr1 (bg, bod) 60 = (bg, bod) := if_pos c_1
    exact re_i hf hr hlk hw (rfl) (by simp only [h1, pr_eta]) dX1_actComes_36
  · have hb30 : bg < 30 := Nat.not_le.mp (fun h => c_1 ((nI_leI (a := 30) (by omega) (by omega)).mpr h))
    refine lv_aload_n hx hb dX1_actComes_9 rfl (lv_at hl 1 rfl) ?_
    refine rg hf hk hw hinX0 1 rfl rfl 4 (by decide) w_1 rfl dX1_actComes_10 ?_
    refine lv_aload_n hx hb dX1_actComes_13 rfl (lv_at hl 1 rfl) ?_
    refine lv_dup hx hb dX1_actComes_14 rfl ?_
    refine rg hf hk hw hinX0 1 rfl rfl 3 (by decide) w_0 rfl dX1_actComes_15 ?_
    refine lv_dup_x1 hx hb dX1_actComes_18 rfl rfl ?_
    refine lv_iconst (v := 1) hx hb dX1_actComes_19 (by decide) ?_
    refine lv_iadd hx hb dX1_actComes_20 ?_
    refine lv_tope (y := nI (bg + 1)) (nI_1 _) ?_
    refine rp hf hk hw hinX0 tyX0 tyX0_ok nmX0 1 rfl rfl 3 (by decide) w_0 rfl (rfl) rfl (Nat.le_of_ble_eq_true rfl) dX1_actComes_21 (W' := [cob kr 1 [], cob oa 0 [.int an, .int ap, .int ab, .int (nI (bg + 1)), .ref lbd], cin g lbd 30 bod]) rfl (fun H locs hw => ?_)
    refine lv_bipush (v := 60) hx hb dX1_actComes_24 (by decide) ?_
    refine rsj hf hk hw 2 rfl (j := bg) (vp_in_nI (by omega) (by omega)) (nI_clamp (by omega)) dX1_actComes_26 (W' := [cob kr 1 [], cob oa 0 [.int an, .int ap, .int ab, .int (nI (bg + 1)), .ref lbd], cin g lbd 30 (upd bod bg 60)]) rfl (fun H locs hw => ?_)
    refine lv_aload_n hx hb dX1_actComes_27 rfl (lv_at hl 0 rfl) ?_
    refine lv_aload_n hx hb dX1_actComes_28 rfl (lv_at hl 1 rfl) ?_
    refine lv_iload_n hx hb dX1_actComes_29 rfl (lv_at hl 2 rfl) ?_
    refine mcP hf hk hst hw (c_X4_actComes_1 l g kr oa lbd an ap ab (bg + 1) (upd bod bg 60) x (by first | omega | ((repeat apply tr1_le); dsimp only; omega))) (va_cwSU 2 hts gX1_actComes_X4_actComes_s47 rfl rfl rfl hdP_X4_actComes ⟨Nat.le_of_ble_eq_true rfl, Nat.le_of_ble_eq_true rfl⟩) [0, 1, 2] rfl rfl 0 rfl rfl rfl hl.1 rfl (Nat.le_of_ble_eq_true rfl) dX1_actComes_30 ⟨Nat.zero_le _, Nat.zero_le _⟩ (W' := [cob kr 1 [], cob oa 0 [.int an, .int ap, .int ab, .int (nI (tr1 (tr1 (tr1 ((bg + 1), (upd bod bg 60)) 13) 11) 10).1), .ref lbd], cin g lbd 30 ((tr1 (tr1 (tr1 ((bg + 1), (upd bod bg 60)) 13) 11) 10).2)]) rfl (fun H locs hw => ?_)
    refine lv_bipush (v := 8) hx hb dX1_actComes_33 (by decide) ?_
    refine lv_isub hx hb dX1_actComes_35 ?_
    have h1 : tr1 (bg, bod) 60 = (bg + 1, upd bod bg 60) := if_neg c_1
    exact re_i hf hr hlk hw (rfl) (by simp only [h1, pr_eta]) dX1_actComes_36
