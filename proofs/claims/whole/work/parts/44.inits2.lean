abbrev rmX11_init : Room := { frames := 1, cells := 14, slots := 768, locals := 21 }
set_option maxHeartbeats 4000000 in
set_option maxRecDepth 100000 in
theorem c_X11_init (l : Launch) (g : GG) (oh : Nat) (sz : Nat) : mtA l g yX11_init wsX11_init rmX11_init [.ref oh] [cob oh 11 [.null, .null, .null, .null, .int 0, .null, .null, .int 0, .null, .int 0, .int 0, .int 0, .int 0, .null, .int 0, .null, .null, .null, .null, .null, .null, .int 0, .int 0, .int 0]] sz (fun rv W => rv = none ∧ ∃ (os : Nat) (ok : Nat) (ol : Nat) (ord : Nat) (odd : Nat) (otp : Nat) (olt : Nat) (orw : Nat) (oso : Nat) (osz : Nat) (oit : Nat) (oho : Nat) (ohe : Nat) (otr : Nat), W = [cob oh 11 [.ref os, .ref ok, .ref ol, .ref ord, .int 0, .ref odd, .ref otp, .int 0, .ref olt, .int 0, .int 0, .int 0, .int 0, .ref orw, .int 0, .ref oso, .ref osz, .ref oit, .ref oho, .ref ohe, .ref otr, .int 0, .int 0, .int 0], cin g os 51 (mR 0 tq_first 1 0 (fun _ => 2) (fun _ => 4) (fun _ => 0) (fun _ => 0) (fun _ => 0) (fun _ => 0)), cin g ok 51 (fun _ => 0), cin g ol 51 (fun _ => 0), cin g ord 51 (fun _ => 0), cin g odd 8 (fun _ => 0), cin g otp 200 (fun _ => 0), cch g olt 120 mlet, cin g orw 30 (fun _ => 0), cin g oso 4 (fun _ => -1), cin g osz 4 (fun _ => 0), cin g oit 160 (fun _ => 0), cin g oho 4 (fun _ => -1), cin g ohe 4 (fun _ => 0), cin g otr 30 (fun _ => 0)]) 14 768 := by
  refine mtA.of (cc := cX11_init) (nL := 1) (ret := none) (own := RX11) (by decide +kernel) rfl rfl (Nat.le_of_ble_eq_true rfl) (fun p e s m below meth c hf hr hlk hnm hk hkN hst hw hA ls hl => ?_)
  have hx := hf.1
  have hb := hf.2.1
  have hts := hf.2.2.2.2
  have hl : lv_has ls 1 [(0, .ref oh)] := hl
  have w_0 : Cond.methodLink RX11 1 objectInit ∈ wsX11_init := List.mem_of_getElem? (i := 1) rfl
  have w_1 : Cond.instanceMethod objectInit ∈ wsX11_init := List.mem_of_getElem? (i := 2) rfl
  have w_2 : Cond.code objectInit ⟨#[0xb1]⟩ 1 none ∈ wsX11_init := List.mem_of_getElem? (i := 3) rfl
  have w_3 : Cond.arrayClass .int ∈ wsX11_init := List.mem_of_getElem? (i := 4) rfl
  have hinX11 : ∀ w ∈ u_ws RX11 TX11 24, w ∈ wsX11_init := fun w h => List.mem_cons_of_mem _ (List.mem_append_right _ h)
  have w_4 : Cond.fieldLink RX11 9 "LightManModel" "s" "[I" ∈ wsX11_init := List.mem_of_getElem? (i := 5) rfl
  have w_5 : Cond.fieldLink RX11 13 "LightManModel" "kept" "[I" ∈ wsX11_init := List.mem_of_getElem? (i := 6) rfl
  have w_6 : Cond.fieldLink RX11 16 "LightManModel" "laid" "[I" ∈ wsX11_init := List.mem_of_getElem? (i := 7) rfl
  have w_7 : Cond.fieldLink RX11 19 "LightManModel" "read" "[I" ∈ wsX11_init := List.mem_of_getElem? (i := 8) rfl
  have w_8 : Cond.fieldLink RX11 22 "LightManModel" "did" "[I" ∈ wsX11_init := List.mem_of_getElem? (i := 9) rfl
  have w_9 : Cond.fieldLink RX11 25 "LightManModel" "tape" "[I" ∈ wsX11_init := List.mem_of_getElem? (i := 10) rfl
  have w_10 : Cond.arrayClass .char ∈ wsX11_init := List.mem_of_getElem? (i := 11) rfl
  have w_11 : Cond.fieldLink RX11 28 "LightManModel" "letters" "[C" ∈ wsX11_init := List.mem_of_getElem? (i := 12) rfl
  have w_12 : Cond.fieldLink RX11 32 "LightManModel" "rows" "[I" ∈ wsX11_init := List.mem_of_getElem? (i := 13) rfl
  have w_13 : Cond.fieldLink RX11 35 "LightManModel" "sorts" "[I" ∈ wsX11_init := List.mem_of_getElem? (i := 14) rfl
  have w_14 : Cond.fieldLink RX11 38 "LightManModel" "sizes" "[I" ∈ wsX11_init := List.mem_of_getElem? (i := 15) rfl
  have w_15 : Cond.fieldLink RX11 41 "LightManModel" "items" "[I" ∈ wsX11_init := List.mem_of_getElem? (i := 16) rfl
  have w_16 : Cond.fieldLink RX11 44 "LightManModel" "holds" "[I" ∈ wsX11_init := List.mem_of_getElem? (i := 17) rfl
  have w_17 : Cond.fieldLink RX11 47 "LightManModel" "heldOne" "[I" ∈ wsX11_init := List.mem_of_getElem? (i := 18) rfl
  have w_18 : Cond.fieldLink RX11 50 "LightManModel" "trace" "[I" ∈ wsX11_init := List.mem_of_getElem? (i := 19) rfl
  refine lv_aload_n hx hb dX11_init_0 rfl (lv_at hl 0 rfl) ?_
  refine W.objInit hx hb hf.2.2.2.1 (hts _ w_0) (hts _ w_1) (hts _ w_2) rfl (by rw [hf.2.2.1]; exact hl.1) rfl dX11_init_1 (Nat.le_of_ble_eq_true rfl) (Nat.le_of_ble_eq_true rfl) ?_
  refine lv_aload_n hx hb dX11_init_4 rfl (lv_at hl 0 rfl) ?_
  refine lv_bipush (v := 51) hx hb dX11_init_5 (by decide) ?_
  refine rna (atype := .int) hf hk hw hA 0 (N := 51) w_3 rfl rfl (fun _ => rfl) (by decide) (rfl) (Nat.le_of_ble_eq_true rfl) (Nat.le_of_ble_eq_true rfl) (Nat.le_of_ble_eq_true rfl) dX11_init_7 (W' := fun q => [cob oh 11 [.null, .null, .null, .null, .int 0, .null, .null, .int 0, .null, .int 0, .int 0, .int 0, .int 0, .null, .int 0, .null, .null, .null, .null, .null, .null, .int 0, .int 0, .int 0], cin g q 51 (fun _ => 0)]) (fun q => rfl) (fun n_1 H hw => ?_)
  refine rpF hf hk hw hnm hinX11 tyX11 tyX11_ok nmX11 0 rfl rfl 0 (by decide) w_4 rfl rfl rfl rfl (Nat.le_of_ble_eq_true rfl) dX11_init_9 (W' := [cob oh 11 [.ref n_1, .null, .null, .null, .int 0, .null, .null, .int 0, .null, .int 0, .int 0, .int 0, .int 0, .null, .int 0, .null, .null, .null, .null, .null, .null, .int 0, .int 0, .int 0], cin g n_1 51 (fun _ => 0)]) rfl (fun H locs hw => ?_)
  refine lv_aload_n hx hb dX11_init_12 rfl (lv_at hl 0 rfl) ?_
  refine lv_bipush (v := 51) hx hb dX11_init_13 (by decide) ?_
  refine rna (atype := .int) hf hk hw hA 0 (N := 51) w_3 rfl rfl (fun _ => rfl) (by decide) (rfl) (Nat.le_of_ble_eq_true rfl) (Nat.le_of_ble_eq_true rfl) (Nat.le_of_ble_eq_true rfl) dX11_init_15 (W' := fun q => [cob oh 11 [.ref n_1, .null, .null, .null, .int 0, .null, .null, .int 0, .null, .int 0, .int 0, .int 0, .int 0, .null, .int 0, .null, .null, .null, .null, .null, .null, .int 0, .int 0, .int 0], cin g n_1 51 (fun _ => 0), cin g q 51 (fun _ => 0)]) (fun q => rfl) (fun n_2 H hw => ?_)
  refine rpF hf hk hw hnm hinX11 tyX11 tyX11_ok nmX11 0 rfl rfl 1 (by decide) w_5 rfl rfl rfl rfl (Nat.le_of_ble_eq_true rfl) dX11_init_17 (W' := [cob oh 11 [.ref n_1, .ref n_2, .null, .null, .int 0, .null, .null, .int 0, .null, .int 0, .int 0, .int 0, .int 0, .null, .int 0, .null, .null, .null, .null, .null, .null, .int 0, .int 0, .int 0], cin g n_1 51 (fun _ => 0), cin g n_2 51 (fun _ => 0)]) rfl (fun H locs hw => ?_)
  refine lv_aload_n hx hb dX11_init_20 rfl (lv_at hl 0 rfl) ?_
  refine lv_bipush (v := 51) hx hb dX11_init_21 (by decide) ?_
  refine rna (atype := .int) hf hk hw hA 0 (N := 51) w_3 rfl rfl (fun _ => rfl) (by decide) (rfl) (Nat.le_of_ble_eq_true rfl) (Nat.le_of_ble_eq_true rfl) (Nat.le_of_ble_eq_true rfl) dX11_init_23 (W' := fun q => [cob oh 11 [.ref n_1, .ref n_2, .null, .null, .int 0, .null, .null, .int 0, .null, .int 0, .int 0, .int 0, .int 0, .null, .int 0, .null, .null, .null, .null, .null, .null, .int 0, .int 0, .int 0], cin g n_1 51 (fun _ => 0), cin g n_2 51 (fun _ => 0), cin g q 51 (fun _ => 0)]) (fun q => rfl) (fun n_3 H hw => ?_)
  refine rpF hf hk hw hnm hinX11 tyX11 tyX11_ok nmX11 0 rfl rfl 2 (by decide) w_6 rfl rfl rfl rfl (Nat.le_of_ble_eq_true rfl) dX11_init_25 (W' := [cob oh 11 [.ref n_1, .ref n_2, .ref n_3, .null, .int 0, .null, .null, .int 0, .null, .int 0, .int 0, .int 0, .int 0, .null, .int 0, .null, .null, .null, .null, .null, .null, .int 0, .int 0, .int 0], cin g n_1 51 (fun _ => 0), cin g n_2 51 (fun _ => 0), cin g n_3 51 (fun _ => 0)]) rfl (fun H locs hw => ?_)
  refine lv_aload_n hx hb dX11_init_28 rfl (lv_at hl 0 rfl) ?_
  refine lv_bipush (v := 51) hx hb dX11_init_29 (by decide) ?_
  refine rna (atype := .int) hf hk hw hA 0 (N := 51) w_3 rfl rfl (fun _ => rfl) (by decide) (rfl) (Nat.le_of_ble_eq_true rfl) (Nat.le_of_ble_eq_true rfl) (Nat.le_of_ble_eq_true rfl) dX11_init_31 (W' := fun q => [cob oh 11 [.ref n_1, .ref n_2, .ref n_3, .null, .int 0, .null, .null, .int 0, .null, .int 0, .int 0, .int 0, .int 0, .null, .int 0, .null, .null, .null, .null, .null, .null, .int 0, .int 0, .int 0], cin g n_1 51 (fun _ => 0), cin g n_2 51 (fun _ => 0), cin g n_3 51 (fun _ => 0), cin g q 51 (fun _ => 0)]) (fun q => rfl) (fun n_4 H hw => ?_)
  refine rpF hf hk hw hnm hinX11 tyX11 tyX11_ok nmX11 0 rfl rfl 3 (by decide) w_7 rfl rfl rfl rfl (Nat.le_of_ble_eq_true rfl) dX11_init_33 (W' := [cob oh 11 [.ref n_1, .ref n_2, .ref n_3, .ref n_4, .int 0, .null, .null, .int 0, .null, .int 0, .int 0, .int 0, .int 0, .null, .int 0, .null, .null, .null, .null, .null, .null, .int 0, .int 0, .int 0], cin g n_1 51 (fun _ => 0), cin g n_2 51 (fun _ => 0), cin g n_3 51 (fun _ => 0), cin g n_4 51 (fun _ => 0)]) rfl (fun H locs hw => ?_)
  refine lv_aload_n hx hb dX11_init_36 rfl (lv_at hl 0 rfl) ?_
  refine lv_bipush (v := 8) hx hb dX11_init_37 (by decide) ?_
  refine rna (atype := .int) hf hk hw hA 0 (N := 8) w_3 rfl rfl (fun _ => rfl) (by decide) (rfl) (Nat.le_of_ble_eq_true rfl) (Nat.le_of_ble_eq_true rfl) (Nat.le_of_ble_eq_true rfl) dX11_init_39 (W' := fun q => [cob oh 11 [.ref n_1, .ref n_2, .ref n_3, .ref n_4, .int 0, .null, .null, .int 0, .null, .int 0, .int 0, .int 0, .int 0, .null, .int 0, .null, .null, .null, .null, .null, .null, .int 0, .int 0, .int 0], cin g n_1 51 (fun _ => 0), cin g n_2 51 (fun _ => 0), cin g n_3 51 (fun _ => 0), cin g n_4 51 (fun _ => 0), cin g q 8 (fun _ => 0)]) (fun q => rfl) (fun n_5 H hw => ?_)
  refine rpF hf hk hw hnm hinX11 tyX11 tyX11_ok nmX11 0 rfl rfl 5 (by decide) w_8 rfl rfl rfl rfl (Nat.le_of_ble_eq_true rfl) dX11_init_41 (W' := [cob oh 11 [.ref n_1, .ref n_2, .ref n_3, .ref n_4, .int 0, .ref n_5, .null, .int 0, .null, .int 0, .int 0, .int 0, .int 0, .null, .int 0, .null, .null, .null, .null, .null, .null, .int 0, .int 0, .int 0], cin g n_1 51 (fun _ => 0), cin g n_2 51 (fun _ => 0), cin g n_3 51 (fun _ => 0), cin g n_4 51 (fun _ => 0), cin g n_5 8 (fun _ => 0)]) rfl (fun H locs hw => ?_)
  refine lv_aload_n hx hb dX11_init_44 rfl (lv_at hl 0 rfl) ?_
  refine lv_sipush (v := 200) hx hb dX11_init_45 (by decide) ?_
  refine rna (atype := .int) hf hk hw hA 0 (N := 200) w_3 rfl rfl (fun _ => rfl) (by decide) (rfl) (Nat.le_of_ble_eq_true rfl) (Nat.le_of_ble_eq_true rfl) (Nat.le_of_ble_eq_true rfl) dX11_init_48 (W' := fun q => [cob oh 11 [.ref n_1, .ref n_2, .ref n_3, .ref n_4, .int 0, .ref n_5, .null, .int 0, .null, .int 0, .int 0, .int 0, .int 0, .null, .int 0, .null, .null, .null, .null, .null, .null, .int 0, .int 0, .int 0], cin g n_1 51 (fun _ => 0), cin g n_2 51 (fun _ => 0), cin g n_3 51 (fun _ => 0), cin g n_4 51 (fun _ => 0), cin g n_5 8 (fun _ => 0), cin g q 200 (fun _ => 0)]) (fun q => rfl) (fun n_6 H hw => ?_)
  refine rpF hf hk hw hnm hinX11 tyX11 tyX11_ok nmX11 0 rfl rfl 6 (by decide) w_9 rfl rfl rfl rfl (Nat.le_of_ble_eq_true rfl) dX11_init_50 (W' := [cob oh 11 [.ref n_1, .ref n_2, .ref n_3, .ref n_4, .int 0, .ref n_5, .ref n_6, .int 0, .null, .int 0, .int 0, .int 0, .int 0, .null, .int 0, .null, .null, .null, .null, .null, .null, .int 0, .int 0, .int 0], cin g n_1 51 (fun _ => 0), cin g n_2 51 (fun _ => 0), cin g n_3 51 (fun _ => 0), cin g n_4 51 (fun _ => 0), cin g n_5 8 (fun _ => 0), cin g n_6 200 (fun _ => 0)]) rfl (fun H locs hw => ?_)
  refine lv_aload_n hx hb dX11_init_53 rfl (lv_at hl 0 rfl) ?_
  refine lv_bipush (v := 120) hx hb dX11_init_54 (by decide) ?_
  refine rna (atype := .char) hf hk hw hA 2 (N := 120) w_10 rfl rfl (fun _ => rfl) (by decide) (rfl) (Nat.le_of_ble_eq_true rfl) (Nat.le_of_ble_eq_true rfl) (Nat.le_of_ble_eq_true rfl) dX11_init_56 (W' := fun q => [cob oh 11 [.ref n_1, .ref n_2, .ref n_3, .ref n_4, .int 0, .ref n_5, .ref n_6, .int 0, .null, .int 0, .int 0, .int 0, .int 0, .null, .int 0, .null, .null, .null, .null, .null, .null, .int 0, .int 0, .int 0], cin g n_1 51 (fun _ => 0), cin g n_2 51 (fun _ => 0), cin g n_3 51 (fun _ => 0), cin g n_4 51 (fun _ => 0), cin g n_5 8 (fun _ => 0), cin g n_6 200 (fun _ => 0), cch g q 120 (fun _ => 0)]) (fun q => rfl) (fun n_7 H hw => ?_)
  refine lv_dup hx hb dX11_init_58 rfl ?_
  refine lv_iconst (v := 0) hx hb dX11_init_59 (by decide) ?_
  refine lv_bipush (v := 103) hx hb dX11_init_60 (by decide) ?_
  refine rcL hf hk hw 7 rfl (k := 0) (fun j hj => absurd hj (by omega)) (vp_in_nI (n := 0) (by omega) (by omega)) rfl rfl dX11_init_62 (W' := fun f2 => [cob oh 11 [.ref n_1, .ref n_2, .ref n_3, .ref n_4, .int 0, .ref n_5, .ref n_6, .int 0, .null, .int 0, .int 0, .int 0, .int 0, .null, .int 0, .null, .null, .null, .null, .null, .null, .int 0, .int 0, .int 0], cin g n_1 51 (fun _ => 0), cin g n_2 51 (fun _ => 0), cin g n_3 51 (fun _ => 0), cin g n_4 51 (fun _ => 0), cin g n_5 8 (fun _ => 0), cin g n_6 200 (fun _ => 0), cch g n_7 120 f2]) (fun f2 => rfl) (fun lf_8 hL H locs hw => ?_)
  refine lv_dup hx hb dX11_init_63 rfl ?_
  refine lv_iconst (v := 1) hx hb dX11_init_64 (by decide) ?_
  refine lv_bipush (v := 111) hx hb dX11_init_65 (by decide) ?_
  refine rcL hf hk hw 7 rfl (k := 1) hL (vp_in_nI (n := 1) (by omega) (by omega)) rfl rfl dX11_init_67 (W' := fun f2 => [cob oh 11 [.ref n_1, .ref n_2, .ref n_3, .ref n_4, .int 0, .ref n_5, .ref n_6, .int 0, .null, .int 0, .int 0, .int 0, .int 0, .null, .int 0, .null, .null, .null, .null, .null, .null, .int 0, .int 0, .int 0], cin g n_1 51 (fun _ => 0), cin g n_2 51 (fun _ => 0), cin g n_3 51 (fun _ => 0), cin g n_4 51 (fun _ => 0), cin g n_5 8 (fun _ => 0), cin g n_6 200 (fun _ => 0), cch g n_7 120 f2]) (fun f2 => rfl) (fun lf_9 hL H locs hw => ?_)
  refine lv_dup hx hb dX11_init_68 rfl ?_
  refine lv_iconst (v := 2) hx hb dX11_init_69 (by decide) ?_
  refine lv_bipush (v := 101) hx hb dX11_init_70 (by decide) ?_
  refine rcL hf hk hw 7 rfl (k := 2) hL (vp_in_nI (n := 2) (by omega) (by omega)) rfl rfl dX11_init_72 (W' := fun f2 => [cob oh 11 [.ref n_1, .ref n_2, .ref n_3, .ref n_4, .int 0, .ref n_5, .ref n_6, .int 0, .null, .int 0, .int 0, .int 0, .int 0, .null, .int 0, .null, .null, .null, .null, .null, .null, .int 0, .int 0, .int 0], cin g n_1 51 (fun _ => 0), cin g n_2 51 (fun _ => 0), cin g n_3 51 (fun _ => 0), cin g n_4 51 (fun _ => 0), cin g n_5 8 (fun _ => 0), cin g n_6 200 (fun _ => 0), cch g n_7 120 f2]) (fun f2 => rfl) (fun lf_10 hL H locs hw => ?_)
  refine lv_dup hx hb dX11_init_73 rfl ?_
  refine lv_iconst (v := 3) hx hb dX11_init_74 (by decide) ?_
  refine lv_bipush (v := 114) hx hb dX11_init_75 (by decide) ?_
  refine rcL hf hk hw 7 rfl (k := 3) hL (vp_in_nI (n := 3) (by omega) (by omega)) rfl rfl dX11_init_77 (W' := fun f2 => [cob oh 11 [.ref n_1, .ref n_2, .ref n_3, .ref n_4, .int 0, .ref n_5, .ref n_6, .int 0, .null, .int 0, .int 0, .int 0, .int 0, .null, .int 0, .null, .null, .null, .null, .null, .null, .int 0, .int 0, .int 0], cin g n_1 51 (fun _ => 0), cin g n_2 51 (fun _ => 0), cin g n_3 51 (fun _ => 0), cin g n_4 51 (fun _ => 0), cin g n_5 8 (fun _ => 0), cin g n_6 200 (fun _ => 0), cch g n_7 120 f2]) (fun f2 => rfl) (fun lf_11 hL H locs hw => ?_)
  refine lv_dup hx hb dX11_init_78 rfl ?_
  refine lv_iconst (v := 4) hx hb dX11_init_79 (by decide) ?_
  refine lv_bipush (v := 32) hx hb dX11_init_80 (by decide) ?_
  refine rcL hf hk hw 7 rfl (k := 4) hL (vp_in_nI (n := 4) (by omega) (by omega)) rfl rfl dX11_init_82 (W' := fun f2 => [cob oh 11 [.ref n_1, .ref n_2, .ref n_3, .ref n_4, .int 0, .ref n_5, .ref n_6, .int 0, .null, .int 0, .int 0, .int 0, .int 0, .null, .int 0, .null, .null, .null, .null, .null, .null, .int 0, .int 0, .int 0], cin g n_1 51 (fun _ => 0), cin g n_2 51 (fun _ => 0), cin g n_3 51 (fun _ => 0), cin g n_4 51 (fun _ => 0), cin g n_5 8 (fun _ => 0), cin g n_6 200 (fun _ => 0), cch g n_7 120 f2]) (fun f2 => rfl) (fun lf_12 hL H locs hw => ?_)
  refine lv_dup hx hb dX11_init_83 rfl ?_
  refine lv_iconst (v := 5) hx hb dX11_init_84 (by decide) ?_
  refine lv_bipush (v := 32) hx hb dX11_init_85 (by decide) ?_
  refine rcL hf hk hw 7 rfl (k := 5) hL (vp_in_nI (n := 5) (by omega) (by omega)) rfl rfl dX11_init_87 (W' := fun f2 => [cob oh 11 [.ref n_1, .ref n_2, .ref n_3, .ref n_4, .int 0, .ref n_5, .ref n_6, .int 0, .null, .int 0, .int 0, .int 0, .int 0, .null, .int 0, .null, .null, .null, .null, .null, .null, .int 0, .int 0, .int 0], cin g n_1 51 (fun _ => 0), cin g n_2 51 (fun _ => 0), cin g n_3 51 (fun _ => 0), cin g n_4 51 (fun _ => 0), cin g n_5 8 (fun _ => 0), cin g n_6 200 (fun _ => 0), cch g n_7 120 f2]) (fun f2 => rfl) (fun lf_13 hL H locs hw => ?_)
  refine lv_dup hx hb dX11_init_88 rfl ?_
  refine lv_bipush (v := 6) hx hb dX11_init_89 (by decide) ?_
  refine lv_bipush (v := 32) hx hb dX11_init_91 (by decide) ?_
  refine rcL hf hk hw 7 rfl (k := 6) hL (vp_in_nI (n := 6) (by omega) (by omega)) rfl rfl dX11_init_93 (W' := fun f2 => [cob oh 11 [.ref n_1, .ref n_2, .ref n_3, .ref n_4, .int 0, .ref n_5, .ref n_6, .int 0, .null, .int 0, .int 0, .int 0, .int 0, .null, .int 0, .null, .null, .null, .null, .null, .null, .int 0, .int 0, .int 0], cin g n_1 51 (fun _ => 0), cin g n_2 51 (fun _ => 0), cin g n_3 51 (fun _ => 0), cin g n_4 51 (fun _ => 0), cin g n_5 8 (fun _ => 0), cin g n_6 200 (fun _ => 0), cch g n_7 120 f2]) (fun f2 => rfl) (fun lf_14 hL H locs hw => ?_)
  refine lv_dup hx hb dX11_init_94 rfl ?_
  refine lv_bipush (v := 7) hx hb dX11_init_95 (by decide) ?_
  refine lv_bipush (v := 32) hx hb dX11_init_97 (by decide) ?_
  refine rcL hf hk hw 7 rfl (k := 7) hL (vp_in_nI (n := 7) (by omega) (by omega)) rfl rfl dX11_init_99 (W' := fun f2 => [cob oh 11 [.ref n_1, .ref n_2, .ref n_3, .ref n_4, .int 0, .ref n_5, .ref n_6, .int 0, .null, .int 0, .int 0, .int 0, .int 0, .null, .int 0, .null, .null, .null, .null, .null, .null, .int 0, .int 0, .int 0], cin g n_1 51 (fun _ => 0), cin g n_2 51 (fun _ => 0), cin g n_3 51 (fun _ => 0), cin g n_4 51 (fun _ => 0), cin g n_5 8 (fun _ => 0), cin g n_6 200 (fun _ => 0), cch g n_7 120 f2]) (fun f2 => rfl) (fun lf_15 hL H locs hw => ?_)
  refine lv_dup hx hb dX11_init_100 rfl ?_
  refine lv_bipush (v := 8) hx hb dX11_init_101 (by decide) ?_
  refine lv_bipush (v := 100) hx hb dX11_init_103 (by decide) ?_
  refine rcL hf hk hw 7 rfl (k := 8) hL (vp_in_nI (n := 8) (by omega) (by omega)) rfl rfl dX11_init_105 (W' := fun f2 => [cob oh 11 [.ref n_1, .ref n_2, .ref n_3, .ref n_4, .int 0, .ref n_5, .ref n_6, .int 0, .null, .int 0, .int 0, .int 0, .int 0, .null, .int 0, .null, .null, .null, .null, .null, .null, .int 0, .int 0, .int 0], cin g n_1 51 (fun _ => 0), cin g n_2 51 (fun _ => 0), cin g n_3 51 (fun _ => 0), cin g n_4 51 (fun _ => 0), cin g n_5 8 (fun _ => 0), cin g n_6 200 (fun _ => 0), cch g n_7 120 f2]) (fun f2 => rfl) (fun lf_16 hL H locs hw => ?_)
  refine lv_dup hx hb dX11_init_106 rfl ?_
  refine lv_bipush (v := 9) hx hb dX11_init_107 (by decide) ?_
  refine lv_bipush (v := 114) hx hb dX11_init_109 (by decide) ?_
  refine rcL hf hk hw 7 rfl (k := 9) hL (vp_in_nI (n := 9) (by omega) (by omega)) rfl rfl dX11_init_111 (W' := fun f2 => [cob oh 11 [.ref n_1, .ref n_2, .ref n_3, .ref n_4, .int 0, .ref n_5, .ref n_6, .int 0, .null, .int 0, .int 0, .int 0, .int 0, .null, .int 0, .null, .null, .null, .null, .null, .null, .int 0, .int 0, .int 0], cin g n_1 51 (fun _ => 0), cin g n_2 51 (fun _ => 0), cin g n_3 51 (fun _ => 0), cin g n_4 51 (fun _ => 0), cin g n_5 8 (fun _ => 0), cin g n_6 200 (fun _ => 0), cch g n_7 120 f2]) (fun f2 => rfl) (fun lf_17 hL H locs hw => ?_)
  refine lv_dup hx hb dX11_init_112 rfl ?_
  refine lv_bipush (v := 10) hx hb dX11_init_113 (by decide) ?_
  refine lv_bipush (v := 105) hx hb dX11_init_115 (by decide) ?_
  refine rcL hf hk hw 7 rfl (k := 10) hL (vp_in_nI (n := 10) (by omega) (by omega)) rfl rfl dX11_init_117 (W' := fun f2 => [cob oh 11 [.ref n_1, .ref n_2, .ref n_3, .ref n_4, .int 0, .ref n_5, .ref n_6, .int 0, .null, .int 0, .int 0, .int 0, .int 0, .null, .int 0, .null, .null, .null, .null, .null, .null, .int 0, .int 0, .int 0], cin g n_1 51 (fun _ => 0), cin g n_2 51 (fun _ => 0), cin g n_3 51 (fun _ => 0), cin g n_4 51 (fun _ => 0), cin g n_5 8 (fun _ => 0), cin g n_6 200 (fun _ => 0), cch g n_7 120 f2]) (fun f2 => rfl) (fun lf_18 hL H locs hw => ?_)
  refine lv_dup hx hb dX11_init_118 rfl ?_
  refine lv_bipush (v := 11) hx hb dX11_init_119 (by decide) ?_
  refine lv_bipush (v := 118) hx hb dX11_init_121 (by decide) ?_
  refine rcL hf hk hw 7 rfl (k := 11) hL (vp_in_nI (n := 11) (by omega) (by omega)) rfl rfl dX11_init_123 (W' := fun f2 => [cob oh 11 [.ref n_1, .ref n_2, .ref n_3, .ref n_4, .int 0, .ref n_5, .ref n_6, .int 0, .null, .int 0, .int 0, .int 0, .int 0, .null, .int 0, .null, .null, .null, .null, .null, .null, .int 0, .int 0, .int 0], cin g n_1 51 (fun _ => 0), cin g n_2 51 (fun _ => 0), cin g n_3 51 (fun _ => 0), cin g n_4 51 (fun _ => 0), cin g n_5 8 (fun _ => 0), cin g n_6 200 (fun _ => 0), cch g n_7 120 f2]) (fun f2 => rfl) (fun lf_19 hL H locs hw => ?_)
  refine lv_dup hx hb dX11_init_124 rfl ?_
  refine lv_bipush (v := 12) hx hb dX11_init_125 (by decide) ?_
  refine lv_bipush (v := 101) hx hb dX11_init_127 (by decide) ?_
  refine rcL hf hk hw 7 rfl (k := 12) hL (vp_in_nI (n := 12) (by omega) (by omega)) rfl rfl dX11_init_129 (W' := fun f2 => [cob oh 11 [.ref n_1, .ref n_2, .ref n_3, .ref n_4, .int 0, .ref n_5, .ref n_6, .int 0, .null, .int 0, .int 0, .int 0, .int 0, .null, .int 0, .null, .null, .null, .null, .null, .null, .int 0, .int 0, .int 0], cin g n_1 51 (fun _ => 0), cin g n_2 51 (fun _ => 0), cin g n_3 51 (fun _ => 0), cin g n_4 51 (fun _ => 0), cin g n_5 8 (fun _ => 0), cin g n_6 200 (fun _ => 0), cch g n_7 120 f2]) (fun f2 => rfl) (fun lf_20 hL H locs hw => ?_)
  refine lv_dup hx hb dX11_init_130 rfl ?_
  refine lv_bipush (v := 13) hx hb dX11_init_131 (by decide) ?_
  refine lv_bipush (v := 114) hx hb dX11_init_133 (by decide) ?_
  refine rcL hf hk hw 7 rfl (k := 13) hL (vp_in_nI (n := 13) (by omega) (by omega)) rfl rfl dX11_init_135 (W' := fun f2 => [cob oh 11 [.ref n_1, .ref n_2, .ref n_3, .ref n_4, .int 0, .ref n_5, .ref n_6, .int 0, .null, .int 0, .int 0, .int 0, .int 0, .null, .int 0, .null, .null, .null, .null, .null, .null, .int 0, .int 0, .int 0], cin g n_1 51 (fun _ => 0), cin g n_2 51 (fun _ => 0), cin g n_3 51 (fun _ => 0), cin g n_4 51 (fun _ => 0), cin g n_5 8 (fun _ => 0), cin g n_6 200 (fun _ => 0), cch g n_7 120 f2]) (fun f2 => rfl) (fun lf_21 hL H locs hw => ?_)
  refine lv_dup hx hb dX11_init_136 rfl ?_
  refine lv_bipush (v := 14) hx hb dX11_init_137 (by decide) ?_
  refine lv_bipush (v := 32) hx hb dX11_init_139 (by decide) ?_
  refine rcL hf hk hw 7 rfl (k := 14) hL (vp_in_nI (n := 14) (by omega) (by omega)) rfl rfl dX11_init_141 (W' := fun f2 => [cob oh 11 [.ref n_1, .ref n_2, .ref n_3, .ref n_4, .int 0, .ref n_5, .ref n_6, .int 0, .null, .int 0, .int 0, .int 0, .int 0, .null, .int 0, .null, .null, .null, .null, .null, .null, .int 0, .int 0, .int 0], cin g n_1 51 (fun _ => 0), cin g n_2 51 (fun _ => 0), cin g n_3 51 (fun _ => 0), cin g n_4 51 (fun _ => 0), cin g n_5 8 (fun _ => 0), cin g n_6 200 (fun _ => 0), cch g n_7 120 f2]) (fun f2 => rfl) (fun lf_22 hL H locs hw => ?_)
  refine lv_dup hx hb dX11_init_142 rfl ?_
  refine lv_bipush (v := 15) hx hb dX11_init_143 (by decide) ?_
  refine lv_bipush (v := 32) hx hb dX11_init_145 (by decide) ?_
  refine rcL hf hk hw 7 rfl (k := 15) hL (vp_in_nI (n := 15) (by omega) (by omega)) rfl rfl dX11_init_147 (W' := fun f2 => [cob oh 11 [.ref n_1, .ref n_2, .ref n_3, .ref n_4, .int 0, .ref n_5, .ref n_6, .int 0, .null, .int 0, .int 0, .int 0, .int 0, .null, .int 0, .null, .null, .null, .null, .null, .null, .int 0, .int 0, .int 0], cin g n_1 51 (fun _ => 0), cin g n_2 51 (fun _ => 0), cin g n_3 51 (fun _ => 0), cin g n_4 51 (fun _ => 0), cin g n_5 8 (fun _ => 0), cin g n_6 200 (fun _ => 0), cch g n_7 120 f2]) (fun f2 => rfl) (fun lf_23 hL H locs hw => ?_)
  refine lv_dup hx hb dX11_init_148 rfl ?_
  refine lv_bipush (v := 16) hx hb dX11_init_149 (by decide) ?_
  refine lv_bipush (v := 109) hx hb dX11_init_151 (by decide) ?_
  refine rcL hf hk hw 7 rfl (k := 16) hL (vp_in_nI (n := 16) (by omega) (by omega)) rfl rfl dX11_init_153 (W' := fun f2 => [cob oh 11 [.ref n_1, .ref n_2, .ref n_3, .ref n_4, .int 0, .ref n_5, .ref n_6, .int 0, .null, .int 0, .int 0, .int 0, .int 0, .null, .int 0, .null, .null, .null, .null, .null, .null, .int 0, .int 0, .int 0], cin g n_1 51 (fun _ => 0), cin g n_2 51 (fun _ => 0), cin g n_3 51 (fun _ => 0), cin g n_4 51 (fun _ => 0), cin g n_5 8 (fun _ => 0), cin g n_6 200 (fun _ => 0), cch g n_7 120 f2]) (fun f2 => rfl) (fun lf_24 hL H locs hw => ?_)
  refine lv_dup hx hb dX11_init_154 rfl ?_
  refine lv_bipush (v := 17) hx hb dX11_init_155 (by decide) ?_
  refine lv_bipush (v := 111) hx hb dX11_init_157 (by decide) ?_
  refine rcL hf hk hw 7 rfl (k := 17) hL (vp_in_nI (n := 17) (by omega) (by omega)) rfl rfl dX11_init_159 (W' := fun f2 => [cob oh 11 [.ref n_1, .ref n_2, .ref n_3, .ref n_4, .int 0, .ref n_5, .ref n_6, .int 0, .null, .int 0, .int 0, .int 0, .int 0, .null, .int 0, .null, .null, .null, .null, .null, .null, .int 0, .int 0, .int 0], cin g n_1 51 (fun _ => 0), cin g n_2 51 (fun _ => 0), cin g n_3 51 (fun _ => 0), cin g n_4 51 (fun _ => 0), cin g n_5 8 (fun _ => 0), cin g n_6 200 (fun _ => 0), cch g n_7 120 f2]) (fun f2 => rfl) (fun lf_25 hL H locs hw => ?_)
  refine lv_dup hx hb dX11_init_160 rfl ?_
  refine lv_bipush (v := 18) hx hb dX11_init_161 (by decide) ?_
  refine lv_bipush (v := 117) hx hb dX11_init_163 (by decide) ?_
  refine rcL hf hk hw 7 rfl (k := 18) hL (vp_in_nI (n := 18) (by omega) (by omega)) rfl rfl dX11_init_165 (W' := fun f2 => [cob oh 11 [.ref n_1, .ref n_2, .ref n_3, .ref n_4, .int 0, .ref n_5, .ref n_6, .int 0, .null, .int 0, .int 0, .int 0, .int 0, .null, .int 0, .null, .null, .null, .null, .null, .null, .int 0, .int 0, .int 0], cin g n_1 51 (fun _ => 0), cin g n_2 51 (fun _ => 0), cin g n_3 51 (fun _ => 0), cin g n_4 51 (fun _ => 0), cin g n_5 8 (fun _ => 0), cin g n_6 200 (fun _ => 0), cch g n_7 120 f2]) (fun f2 => rfl) (fun lf_26 hL H locs hw => ?_)
  refine lv_dup hx hb dX11_init_166 rfl ?_
  refine lv_bipush (v := 19) hx hb dX11_init_167 (by decide) ?_
  refine lv_bipush (v := 114) hx hb dX11_init_169 (by decide) ?_
  refine rcL hf hk hw 7 rfl (k := 19) hL (vp_in_nI (n := 19) (by omega) (by omega)) rfl rfl dX11_init_171 (W' := fun f2 => [cob oh 11 [.ref n_1, .ref n_2, .ref n_3, .ref n_4, .int 0, .ref n_5, .ref n_6, .int 0, .null, .int 0, .int 0, .int 0, .int 0, .null, .int 0, .null, .null, .null, .null, .null, .null, .int 0, .int 0, .int 0], cin g n_1 51 (fun _ => 0), cin g n_2 51 (fun _ => 0), cin g n_3 51 (fun _ => 0), cin g n_4 51 (fun _ => 0), cin g n_5 8 (fun _ => 0), cin g n_6 200 (fun _ => 0), cch g n_7 120 f2]) (fun f2 => rfl) (fun lf_27 hL H locs hw => ?_)
  refine lv_dup hx hb dX11_init_172 rfl ?_
  refine lv_bipush (v := 20) hx hb dX11_init_173 (by decide) ?_
  refine lv_bipush (v := 110) hx hb dX11_init_175 (by decide) ?_
  refine rcL hf hk hw 7 rfl (k := 20) hL (vp_in_nI (n := 20) (by omega) (by omega)) rfl rfl dX11_init_177 (W' := fun f2 => [cob oh 11 [.ref n_1, .ref n_2, .ref n_3, .ref n_4, .int 0, .ref n_5, .ref n_6, .int 0, .null, .int 0, .int 0, .int 0, .int 0, .null, .int 0, .null, .null, .null, .null, .null, .null, .int 0, .int 0, .int 0], cin g n_1 51 (fun _ => 0), cin g n_2 51 (fun _ => 0), cin g n_3 51 (fun _ => 0), cin g n_4 51 (fun _ => 0), cin g n_5 8 (fun _ => 0), cin g n_6 200 (fun _ => 0), cch g n_7 120 f2]) (fun f2 => rfl) (fun lf_28 hL H locs hw => ?_)
  refine lv_dup hx hb dX11_init_178 rfl ?_
  refine lv_bipush (v := 21) hx hb dX11_init_179 (by decide) ?_
  refine lv_bipush (v := 101) hx hb dX11_init_181 (by decide) ?_
  refine rcL hf hk hw 7 rfl (k := 21) hL (vp_in_nI (n := 21) (by omega) (by omega)) rfl rfl dX11_init_183 (W' := fun f2 => [cob oh 11 [.ref n_1, .ref n_2, .ref n_3, .ref n_4, .int 0, .ref n_5, .ref n_6, .int 0, .null, .int 0, .int 0, .int 0, .int 0, .null, .int 0, .null, .null, .null, .null, .null, .null, .int 0, .int 0, .int 0], cin g n_1 51 (fun _ => 0), cin g n_2 51 (fun _ => 0), cin g n_3 51 (fun _ => 0), cin g n_4 51 (fun _ => 0), cin g n_5 8 (fun _ => 0), cin g n_6 200 (fun _ => 0), cch g n_7 120 f2]) (fun f2 => rfl) (fun lf_29 hL H locs hw => ?_)
  refine lv_dup hx hb dX11_init_184 rfl ?_
  refine lv_bipush (v := 22) hx hb dX11_init_185 (by decide) ?_
  refine lv_bipush (v := 114) hx hb dX11_init_187 (by decide) ?_
  refine rcL hf hk hw 7 rfl (k := 22) hL (vp_in_nI (n := 22) (by omega) (by omega)) rfl rfl dX11_init_189 (W' := fun f2 => [cob oh 11 [.ref n_1, .ref n_2, .ref n_3, .ref n_4, .int 0, .ref n_5, .ref n_6, .int 0, .null, .int 0, .int 0, .int 0, .int 0, .null, .int 0, .null, .null, .null, .null, .null, .null, .int 0, .int 0, .int 0], cin g n_1 51 (fun _ => 0), cin g n_2 51 (fun _ => 0), cin g n_3 51 (fun _ => 0), cin g n_4 51 (fun _ => 0), cin g n_5 8 (fun _ => 0), cin g n_6 200 (fun _ => 0), cch g n_7 120 f2]) (fun f2 => rfl) (fun lf_30 hL H locs hw => ?_)
  refine lv_dup hx hb dX11_init_190 rfl ?_
  refine lv_bipush (v := 23) hx hb dX11_init_191 (by decide) ?_
  refine lv_bipush (v := 32) hx hb dX11_init_193 (by decide) ?_
  refine rcL hf hk hw 7 rfl (k := 23) hL (vp_in_nI (n := 23) (by omega) (by omega)) rfl rfl dX11_init_195 (W' := fun f2 => [cob oh 11 [.ref n_1, .ref n_2, .ref n_3, .ref n_4, .int 0, .ref n_5, .ref n_6, .int 0, .null, .int 0, .int 0, .int 0, .int 0, .null, .int 0, .null, .null, .null, .null, .null, .null, .int 0, .int 0, .int 0], cin g n_1 51 (fun _ => 0), cin g n_2 51 (fun _ => 0), cin g n_3 51 (fun _ => 0), cin g n_4 51 (fun _ => 0), cin g n_5 8 (fun _ => 0), cin g n_6 200 (fun _ => 0), cch g n_7 120 f2]) (fun f2 => rfl) (fun lf_31 hL H locs hw => ?_)
  refine lv_dup hx hb dX11_init_196 rfl ?_
  refine lv_bipush (v := 24) hx hb dX11_init_197 (by decide) ?_
  refine lv_bipush (v := 115) hx hb dX11_init_199 (by decide) ?_
  refine rcL hf hk hw 7 rfl (k := 24) hL (vp_in_nI (n := 24) (by omega) (by omega)) rfl rfl dX11_init_201 (W' := fun f2 => [cob oh 11 [.ref n_1, .ref n_2, .ref n_3, .ref n_4, .int 0, .ref n_5, .ref n_6, .int 0, .null, .int 0, .int 0, .int 0, .int 0, .null, .int 0, .null, .null, .null, .null, .null, .null, .int 0, .int 0, .int 0], cin g n_1 51 (fun _ => 0), cin g n_2 51 (fun _ => 0), cin g n_3 51 (fun _ => 0), cin g n_4 51 (fun _ => 0), cin g n_5 8 (fun _ => 0), cin g n_6 200 (fun _ => 0), cch g n_7 120 f2]) (fun f2 => rfl) (fun lf_32 hL H locs hw => ?_)
  refine lv_dup hx hb dX11_init_202 rfl ?_
  refine lv_bipush (v := 25) hx hb dX11_init_203 (by decide) ?_
  refine lv_bipush (v := 116) hx hb dX11_init_205 (by decide) ?_
  refine rcL hf hk hw 7 rfl (k := 25) hL (vp_in_nI (n := 25) (by omega) (by omega)) rfl rfl dX11_init_207 (W' := fun f2 => [cob oh 11 [.ref n_1, .ref n_2, .ref n_3, .ref n_4, .int 0, .ref n_5, .ref n_6, .int 0, .null, .int 0, .int 0, .int 0, .int 0, .null, .int 0, .null, .null, .null, .null, .null, .null, .int 0, .int 0, .int 0], cin g n_1 51 (fun _ => 0), cin g n_2 51 (fun _ => 0), cin g n_3 51 (fun _ => 0), cin g n_4 51 (fun _ => 0), cin g n_5 8 (fun _ => 0), cin g n_6 200 (fun _ => 0), cch g n_7 120 f2]) (fun f2 => rfl) (fun lf_33 hL H locs hw => ?_)
  refine lv_dup hx hb dX11_init_208 rfl ?_
  refine lv_bipush (v := 26) hx hb dX11_init_209 (by decide) ?_
  refine lv_bipush (v := 111) hx hb dX11_init_211 (by decide) ?_
  refine rcL hf hk hw 7 rfl (k := 26) hL (vp_in_nI (n := 26) (by omega) (by omega)) rfl rfl dX11_init_213 (W' := fun f2 => [cob oh 11 [.ref n_1, .ref n_2, .ref n_3, .ref n_4, .int 0, .ref n_5, .ref n_6, .int 0, .null, .int 0, .int 0, .int 0, .int 0, .null, .int 0, .null, .null, .null, .null, .null, .null, .int 0, .int 0, .int 0], cin g n_1 51 (fun _ => 0), cin g n_2 51 (fun _ => 0), cin g n_3 51 (fun _ => 0), cin g n_4 51 (fun _ => 0), cin g n_5 8 (fun _ => 0), cin g n_6 200 (fun _ => 0), cch g n_7 120 f2]) (fun f2 => rfl) (fun lf_34 hL H locs hw => ?_)
  refine lv_dup hx hb dX11_init_214 rfl ?_
  refine lv_bipush (v := 27) hx hb dX11_init_215 (by decide) ?_
  refine lv_bipush (v := 107) hx hb dX11_init_217 (by decide) ?_
  refine rcL hf hk hw 7 rfl (k := 27) hL (vp_in_nI (n := 27) (by omega) (by omega)) rfl rfl dX11_init_219 (W' := fun f2 => [cob oh 11 [.ref n_1, .ref n_2, .ref n_3, .ref n_4, .int 0, .ref n_5, .ref n_6, .int 0, .null, .int 0, .int 0, .int 0, .int 0, .null, .int 0, .null, .null, .null, .null, .null, .null, .int 0, .int 0, .int 0], cin g n_1 51 (fun _ => 0), cin g n_2 51 (fun _ => 0), cin g n_3 51 (fun _ => 0), cin g n_4 51 (fun _ => 0), cin g n_5 8 (fun _ => 0), cin g n_6 200 (fun _ => 0), cch g n_7 120 f2]) (fun f2 => rfl) (fun lf_35 hL H locs hw => ?_)
  refine lv_dup hx hb dX11_init_220 rfl ?_
  refine lv_bipush (v := 28) hx hb dX11_init_221 (by decide) ?_
  refine lv_bipush (v := 101) hx hb dX11_init_223 (by decide) ?_
  refine rcL hf hk hw 7 rfl (k := 28) hL (vp_in_nI (n := 28) (by omega) (by omega)) rfl rfl dX11_init_225 (W' := fun f2 => [cob oh 11 [.ref n_1, .ref n_2, .ref n_3, .ref n_4, .int 0, .ref n_5, .ref n_6, .int 0, .null, .int 0, .int 0, .int 0, .int 0, .null, .int 0, .null, .null, .null, .null, .null, .null, .int 0, .int 0, .int 0], cin g n_1 51 (fun _ => 0), cin g n_2 51 (fun _ => 0), cin g n_3 51 (fun _ => 0), cin g n_4 51 (fun _ => 0), cin g n_5 8 (fun _ => 0), cin g n_6 200 (fun _ => 0), cch g n_7 120 f2]) (fun f2 => rfl) (fun lf_36 hL H locs hw => ?_)
  refine lv_dup hx hb dX11_init_226 rfl ?_
  refine lv_bipush (v := 29) hx hb dX11_init_227 (by decide) ?_
  refine lv_bipush (v := 114) hx hb dX11_init_229 (by decide) ?_
  refine rcL hf hk hw 7 rfl (k := 29) hL (vp_in_nI (n := 29) (by omega) (by omega)) rfl rfl dX11_init_231 (W' := fun f2 => [cob oh 11 [.ref n_1, .ref n_2, .ref n_3, .ref n_4, .int 0, .ref n_5, .ref n_6, .int 0, .null, .int 0, .int 0, .int 0, .int 0, .null, .int 0, .null, .null, .null, .null, .null, .null, .int 0, .int 0, .int 0], cin g n_1 51 (fun _ => 0), cin g n_2 51 (fun _ => 0), cin g n_3 51 (fun _ => 0), cin g n_4 51 (fun _ => 0), cin g n_5 8 (fun _ => 0), cin g n_6 200 (fun _ => 0), cch g n_7 120 f2]) (fun f2 => rfl) (fun lf_37 hL H locs hw => ?_)
  refine lv_dup hx hb dX11_init_232 rfl ?_
  refine lv_bipush (v := 30) hx hb dX11_init_233 (by decide) ?_
  refine lv_bipush (v := 32) hx hb dX11_init_235 (by decide) ?_
  refine rcL hf hk hw 7 rfl (k := 30) hL (vp_in_nI (n := 30) (by omega) (by omega)) rfl rfl dX11_init_237 (W' := fun f2 => [cob oh 11 [.ref n_1, .ref n_2, .ref n_3, .ref n_4, .int 0, .ref n_5, .ref n_6, .int 0, .null, .int 0, .int 0, .int 0, .int 0, .null, .int 0, .null, .null, .null, .null, .null, .null, .int 0, .int 0, .int 0], cin g n_1 51 (fun _ => 0), cin g n_2 51 (fun _ => 0), cin g n_3 51 (fun _ => 0), cin g n_4 51 (fun _ => 0), cin g n_5 8 (fun _ => 0), cin g n_6 200 (fun _ => 0), cch g n_7 120 f2]) (fun f2 => rfl) (fun lf_38 hL H locs hw => ?_)
  refine lv_dup hx hb dX11_init_238 rfl ?_
  refine lv_bipush (v := 31) hx hb dX11_init_239 (by decide) ?_
  refine lv_bipush (v := 32) hx hb dX11_init_241 (by decide) ?_
  refine rcL hf hk hw 7 rfl (k := 31) hL (vp_in_nI (n := 31) (by omega) (by omega)) rfl rfl dX11_init_243 (W' := fun f2 => [cob oh 11 [.ref n_1, .ref n_2, .ref n_3, .ref n_4, .int 0, .ref n_5, .ref n_6, .int 0, .null, .int 0, .int 0, .int 0, .int 0, .null, .int 0, .null, .null, .null, .null, .null, .null, .int 0, .int 0, .int 0], cin g n_1 51 (fun _ => 0), cin g n_2 51 (fun _ => 0), cin g n_3 51 (fun _ => 0), cin g n_4 51 (fun _ => 0), cin g n_5 8 (fun _ => 0), cin g n_6 200 (fun _ => 0), cch g n_7 120 f2]) (fun f2 => rfl) (fun lf_39 hL H locs hw => ?_)
  refine lv_dup hx hb dX11_init_244 rfl ?_
  refine lv_bipush (v := 32) hx hb dX11_init_245 (by decide) ?_
  refine lv_bipush (v := 119) hx hb dX11_init_247 (by decide) ?_
  refine rcL hf hk hw 7 rfl (k := 32) hL (vp_in_nI (n := 32) (by omega) (by omega)) rfl rfl dX11_init_249 (W' := fun f2 => [cob oh 11 [.ref n_1, .ref n_2, .ref n_3, .ref n_4, .int 0, .ref n_5, .ref n_6, .int 0, .null, .int 0, .int 0, .int 0, .int 0, .null, .int 0, .null, .null, .null, .null, .null, .null, .int 0, .int 0, .int 0], cin g n_1 51 (fun _ => 0), cin g n_2 51 (fun _ => 0), cin g n_3 51 (fun _ => 0), cin g n_4 51 (fun _ => 0), cin g n_5 8 (fun _ => 0), cin g n_6 200 (fun _ => 0), cch g n_7 120 f2]) (fun f2 => rfl) (fun lf_40 hL H locs hw => ?_)
  refine lv_dup hx hb dX11_init_250 rfl ?_
  refine lv_bipush (v := 33) hx hb dX11_init_251 (by decide) ?_
  refine lv_bipush (v := 105) hx hb dX11_init_253 (by decide) ?_
  refine rcL hf hk hw 7 rfl (k := 33) hL (vp_in_nI (n := 33) (by omega) (by omega)) rfl rfl dX11_init_255 (W' := fun f2 => [cob oh 11 [.ref n_1, .ref n_2, .ref n_3, .ref n_4, .int 0, .ref n_5, .ref n_6, .int 0, .null, .int 0, .int 0, .int 0, .int 0, .null, .int 0, .null, .null, .null, .null, .null, .null, .int 0, .int 0, .int 0], cin g n_1 51 (fun _ => 0), cin g n_2 51 (fun _ => 0), cin g n_3 51 (fun _ => 0), cin g n_4 51 (fun _ => 0), cin g n_5 8 (fun _ => 0), cin g n_6 200 (fun _ => 0), cch g n_7 120 f2]) (fun f2 => rfl) (fun lf_41 hL H locs hw => ?_)
  refine lv_dup hx hb dX11_init_256 rfl ?_
  refine lv_bipush (v := 34) hx hb dX11_init_257 (by decide) ?_
  refine lv_bipush (v := 100) hx hb dX11_init_259 (by decide) ?_
  refine rcL hf hk hw 7 rfl (k := 34) hL (vp_in_nI (n := 34) (by omega) (by omega)) rfl rfl dX11_init_261 (W' := fun f2 => [cob oh 11 [.ref n_1, .ref n_2, .ref n_3, .ref n_4, .int 0, .ref n_5, .ref n_6, .int 0, .null, .int 0, .int 0, .int 0, .int 0, .null, .int 0, .null, .null, .null, .null, .null, .null, .int 0, .int 0, .int 0], cin g n_1 51 (fun _ => 0), cin g n_2 51 (fun _ => 0), cin g n_3 51 (fun _ => 0), cin g n_4 51 (fun _ => 0), cin g n_5 8 (fun _ => 0), cin g n_6 200 (fun _ => 0), cch g n_7 120 f2]) (fun f2 => rfl) (fun lf_42 hL H locs hw => ?_)
  refine lv_dup hx hb dX11_init_262 rfl ?_
  refine lv_bipush (v := 35) hx hb dX11_init_263 (by decide) ?_
  refine lv_bipush (v := 111) hx hb dX11_init_265 (by decide) ?_
  refine rcL hf hk hw 7 rfl (k := 35) hL (vp_in_nI (n := 35) (by omega) (by omega)) rfl rfl dX11_init_267 (W' := fun f2 => [cob oh 11 [.ref n_1, .ref n_2, .ref n_3, .ref n_4, .int 0, .ref n_5, .ref n_6, .int 0, .null, .int 0, .int 0, .int 0, .int 0, .null, .int 0, .null, .null, .null, .null, .null, .null, .int 0, .int 0, .int 0], cin g n_1 51 (fun _ => 0), cin g n_2 51 (fun _ => 0), cin g n_3 51 (fun _ => 0), cin g n_4 51 (fun _ => 0), cin g n_5 8 (fun _ => 0), cin g n_6 200 (fun _ => 0), cch g n_7 120 f2]) (fun f2 => rfl) (fun lf_43 hL H locs hw => ?_)
  refine lv_dup hx hb dX11_init_268 rfl ?_
  refine lv_bipush (v := 36) hx hb dX11_init_269 (by decide) ?_
  refine lv_bipush (v := 119) hx hb dX11_init_271 (by decide) ?_
  refine rcL hf hk hw 7 rfl (k := 36) hL (vp_in_nI (n := 36) (by omega) (by omega)) rfl rfl dX11_init_273 (W' := fun f2 => [cob oh 11 [.ref n_1, .ref n_2, .ref n_3, .ref n_4, .int 0, .ref n_5, .ref n_6, .int 0, .null, .int 0, .int 0, .int 0, .int 0, .null, .int 0, .null, .null, .null, .null, .null, .null, .int 0, .int 0, .int 0], cin g n_1 51 (fun _ => 0), cin g n_2 51 (fun _ => 0), cin g n_3 51 (fun _ => 0), cin g n_4 51 (fun _ => 0), cin g n_5 8 (fun _ => 0), cin g n_6 200 (fun _ => 0), cch g n_7 120 f2]) (fun f2 => rfl) (fun lf_44 hL H locs hw => ?_)
  refine lv_dup hx hb dX11_init_274 rfl ?_
  refine lv_bipush (v := 37) hx hb dX11_init_275 (by decide) ?_
  refine lv_bipush (v := 32) hx hb dX11_init_277 (by decide) ?_
  refine rcL hf hk hw 7 rfl (k := 37) hL (vp_in_nI (n := 37) (by omega) (by omega)) rfl rfl dX11_init_279 (W' := fun f2 => [cob oh 11 [.ref n_1, .ref n_2, .ref n_3, .ref n_4, .int 0, .ref n_5, .ref n_6, .int 0, .null, .int 0, .int 0, .int 0, .int 0, .null, .int 0, .null, .null, .null, .null, .null, .null, .int 0, .int 0, .int 0], cin g n_1 51 (fun _ => 0), cin g n_2 51 (fun _ => 0), cin g n_3 51 (fun _ => 0), cin g n_4 51 (fun _ => 0), cin g n_5 8 (fun _ => 0), cin g n_6 200 (fun _ => 0), cch g n_7 120 f2]) (fun f2 => rfl) (fun lf_45 hL H locs hw => ?_)
  refine lv_dup hx hb dX11_init_280 rfl ?_
  refine lv_bipush (v := 38) hx hb dX11_init_281 (by decide) ?_
  refine lv_bipush (v := 32) hx hb dX11_init_283 (by decide) ?_
  refine rcL hf hk hw 7 rfl (k := 38) hL (vp_in_nI (n := 38) (by omega) (by omega)) rfl rfl dX11_init_285 (W' := fun f2 => [cob oh 11 [.ref n_1, .ref n_2, .ref n_3, .ref n_4, .int 0, .ref n_5, .ref n_6, .int 0, .null, .int 0, .int 0, .int 0, .int 0, .null, .int 0, .null, .null, .null, .null, .null, .null, .int 0, .int 0, .int 0], cin g n_1 51 (fun _ => 0), cin g n_2 51 (fun _ => 0), cin g n_3 51 (fun _ => 0), cin g n_4 51 (fun _ => 0), cin g n_5 8 (fun _ => 0), cin g n_6 200 (fun _ => 0), cch g n_7 120 f2]) (fun f2 => rfl) (fun lf_46 hL H locs hw => ?_)
  refine lv_dup hx hb dX11_init_286 rfl ?_
  refine lv_bipush (v := 39) hx hb dX11_init_287 (by decide) ?_
  refine lv_bipush (v := 32) hx hb dX11_init_289 (by decide) ?_
  refine rcL hf hk hw 7 rfl (k := 39) hL (vp_in_nI (n := 39) (by omega) (by omega)) rfl rfl dX11_init_291 (W' := fun f2 => [cob oh 11 [.ref n_1, .ref n_2, .ref n_3, .ref n_4, .int 0, .ref n_5, .ref n_6, .int 0, .null, .int 0, .int 0, .int 0, .int 0, .null, .int 0, .null, .null, .null, .null, .null, .null, .int 0, .int 0, .int 0], cin g n_1 51 (fun _ => 0), cin g n_2 51 (fun _ => 0), cin g n_3 51 (fun _ => 0), cin g n_4 51 (fun _ => 0), cin g n_5 8 (fun _ => 0), cin g n_6 200 (fun _ => 0), cch g n_7 120 f2]) (fun f2 => rfl) (fun lf_47 hL H locs hw => ?_)
  refine lv_dup hx hb dX11_init_292 rfl ?_
  refine lv_bipush (v := 40) hx hb dX11_init_293 (by decide) ?_
  refine lv_bipush (v := 99) hx hb dX11_init_295 (by decide) ?_
  refine rcL hf hk hw 7 rfl (k := 40) hL (vp_in_nI (n := 40) (by omega) (by omega)) rfl rfl dX11_init_297 (W' := fun f2 => [cob oh 11 [.ref n_1, .ref n_2, .ref n_3, .ref n_4, .int 0, .ref n_5, .ref n_6, .int 0, .null, .int 0, .int 0, .int 0, .int 0, .null, .int 0, .null, .null, .null, .null, .null, .null, .int 0, .int 0, .int 0], cin g n_1 51 (fun _ => 0), cin g n_2 51 (fun _ => 0), cin g n_3 51 (fun _ => 0), cin g n_4 51 (fun _ => 0), cin g n_5 8 (fun _ => 0), cin g n_6 200 (fun _ => 0), cch g n_7 120 f2]) (fun f2 => rfl) (fun lf_48 hL H locs hw => ?_)
  refine lv_dup hx hb dX11_init_298 rfl ?_
  refine lv_bipush (v := 41) hx hb dX11_init_299 (by decide) ?_
  refine lv_bipush (v := 104) hx hb dX11_init_301 (by decide) ?_
  refine rcL hf hk hw 7 rfl (k := 41) hL (vp_in_nI (n := 41) (by omega) (by omega)) rfl rfl dX11_init_303 (W' := fun f2 => [cob oh 11 [.ref n_1, .ref n_2, .ref n_3, .ref n_4, .int 0, .ref n_5, .ref n_6, .int 0, .null, .int 0, .int 0, .int 0, .int 0, .null, .int 0, .null, .null, .null, .null, .null, .null, .int 0, .int 0, .int 0], cin g n_1 51 (fun _ => 0), cin g n_2 51 (fun _ => 0), cin g n_3 51 (fun _ => 0), cin g n_4 51 (fun _ => 0), cin g n_5 8 (fun _ => 0), cin g n_6 200 (fun _ => 0), cch g n_7 120 f2]) (fun f2 => rfl) (fun lf_49 hL H locs hw => ?_)
  refine lv_dup hx hb dX11_init_304 rfl ?_
  refine lv_bipush (v := 42) hx hb dX11_init_305 (by decide) ?_
  refine lv_bipush (v := 105) hx hb dX11_init_307 (by decide) ?_
  refine rcL hf hk hw 7 rfl (k := 42) hL (vp_in_nI (n := 42) (by omega) (by omega)) rfl rfl dX11_init_309 (W' := fun f2 => [cob oh 11 [.ref n_1, .ref n_2, .ref n_3, .ref n_4, .int 0, .ref n_5, .ref n_6, .int 0, .null, .int 0, .int 0, .int 0, .int 0, .null, .int 0, .null, .null, .null, .null, .null, .null, .int 0, .int 0, .int 0], cin g n_1 51 (fun _ => 0), cin g n_2 51 (fun _ => 0), cin g n_3 51 (fun _ => 0), cin g n_4 51 (fun _ => 0), cin g n_5 8 (fun _ => 0), cin g n_6 200 (fun _ => 0), cch g n_7 120 f2]) (fun f2 => rfl) (fun lf_50 hL H locs hw => ?_)
  refine lv_dup hx hb dX11_init_310 rfl ?_
  refine lv_bipush (v := 43) hx hb dX11_init_311 (by decide) ?_
  refine lv_bipush (v := 108) hx hb dX11_init_313 (by decide) ?_
  refine rcL hf hk hw 7 rfl (k := 43) hL (vp_in_nI (n := 43) (by omega) (by omega)) rfl rfl dX11_init_315 (W' := fun f2 => [cob oh 11 [.ref n_1, .ref n_2, .ref n_3, .ref n_4, .int 0, .ref n_5, .ref n_6, .int 0, .null, .int 0, .int 0, .int 0, .int 0, .null, .int 0, .null, .null, .null, .null, .null, .null, .int 0, .int 0, .int 0], cin g n_1 51 (fun _ => 0), cin g n_2 51 (fun _ => 0), cin g n_3 51 (fun _ => 0), cin g n_4 51 (fun _ => 0), cin g n_5 8 (fun _ => 0), cin g n_6 200 (fun _ => 0), cch g n_7 120 f2]) (fun f2 => rfl) (fun lf_51 hL H locs hw => ?_)
  refine lv_dup hx hb dX11_init_316 rfl ?_
  refine lv_bipush (v := 44) hx hb dX11_init_317 (by decide) ?_
  refine lv_bipush (v := 100) hx hb dX11_init_319 (by decide) ?_
  refine rcL hf hk hw 7 rfl (k := 44) hL (vp_in_nI (n := 44) (by omega) (by omega)) rfl rfl dX11_init_321 (W' := fun f2 => [cob oh 11 [.ref n_1, .ref n_2, .ref n_3, .ref n_4, .int 0, .ref n_5, .ref n_6, .int 0, .null, .int 0, .int 0, .int 0, .int 0, .null, .int 0, .null, .null, .null, .null, .null, .null, .int 0, .int 0, .int 0], cin g n_1 51 (fun _ => 0), cin g n_2 51 (fun _ => 0), cin g n_3 51 (fun _ => 0), cin g n_4 51 (fun _ => 0), cin g n_5 8 (fun _ => 0), cin g n_6 200 (fun _ => 0), cch g n_7 120 f2]) (fun f2 => rfl) (fun lf_52 hL H locs hw => ?_)
  refine lv_dup hx hb dX11_init_322 rfl ?_
  refine lv_bipush (v := 45) hx hb dX11_init_323 (by decide) ?_
  refine lv_bipush (v := 32) hx hb dX11_init_325 (by decide) ?_
  refine rcL hf hk hw 7 rfl (k := 45) hL (vp_in_nI (n := 45) (by omega) (by omega)) rfl rfl dX11_init_327 (W' := fun f2 => [cob oh 11 [.ref n_1, .ref n_2, .ref n_3, .ref n_4, .int 0, .ref n_5, .ref n_6, .int 0, .null, .int 0, .int 0, .int 0, .int 0, .null, .int 0, .null, .null, .null, .null, .null, .null, .int 0, .int 0, .int 0], cin g n_1 51 (fun _ => 0), cin g n_2 51 (fun _ => 0), cin g n_3 51 (fun _ => 0), cin g n_4 51 (fun _ => 0), cin g n_5 8 (fun _ => 0), cin g n_6 200 (fun _ => 0), cch g n_7 120 f2]) (fun f2 => rfl) (fun lf_53 hL H locs hw => ?_)
  refine lv_dup hx hb dX11_init_328 rfl ?_
  refine lv_bipush (v := 46) hx hb dX11_init_329 (by decide) ?_
  refine lv_bipush (v := 32) hx hb dX11_init_331 (by decide) ?_
  refine rcL hf hk hw 7 rfl (k := 46) hL (vp_in_nI (n := 46) (by omega) (by omega)) rfl rfl dX11_init_333 (W' := fun f2 => [cob oh 11 [.ref n_1, .ref n_2, .ref n_3, .ref n_4, .int 0, .ref n_5, .ref n_6, .int 0, .null, .int 0, .int 0, .int 0, .int 0, .null, .int 0, .null, .null, .null, .null, .null, .null, .int 0, .int 0, .int 0], cin g n_1 51 (fun _ => 0), cin g n_2 51 (fun _ => 0), cin g n_3 51 (fun _ => 0), cin g n_4 51 (fun _ => 0), cin g n_5 8 (fun _ => 0), cin g n_6 200 (fun _ => 0), cch g n_7 120 f2]) (fun f2 => rfl) (fun lf_54 hL H locs hw => ?_)
  refine lv_dup hx hb dX11_init_334 rfl ?_
  refine lv_bipush (v := 47) hx hb dX11_init_335 (by decide) ?_
  refine lv_bipush (v := 32) hx hb dX11_init_337 (by decide) ?_
  refine rcL hf hk hw 7 rfl (k := 47) hL (vp_in_nI (n := 47) (by omega) (by omega)) rfl rfl dX11_init_339 (W' := fun f2 => [cob oh 11 [.ref n_1, .ref n_2, .ref n_3, .ref n_4, .int 0, .ref n_5, .ref n_6, .int 0, .null, .int 0, .int 0, .int 0, .int 0, .null, .int 0, .null, .null, .null, .null, .null, .null, .int 0, .int 0, .int 0], cin g n_1 51 (fun _ => 0), cin g n_2 51 (fun _ => 0), cin g n_3 51 (fun _ => 0), cin g n_4 51 (fun _ => 0), cin g n_5 8 (fun _ => 0), cin g n_6 200 (fun _ => 0), cch g n_7 120 f2]) (fun f2 => rfl) (fun lf_55 hL H locs hw => ?_)
  refine lv_dup hx hb dX11_init_340 rfl ?_
  refine lv_bipush (v := 48) hx hb dX11_init_341 (by decide) ?_
  refine lv_bipush (v := 102) hx hb dX11_init_343 (by decide) ?_
  refine rcL hf hk hw 7 rfl (k := 48) hL (vp_in_nI (n := 48) (by omega) (by omega)) rfl rfl dX11_init_345 (W' := fun f2 => [cob oh 11 [.ref n_1, .ref n_2, .ref n_3, .ref n_4, .int 0, .ref n_5, .ref n_6, .int 0, .null, .int 0, .int 0, .int 0, .int 0, .null, .int 0, .null, .null, .null, .null, .null, .null, .int 0, .int 0, .int 0], cin g n_1 51 (fun _ => 0), cin g n_2 51 (fun _ => 0), cin g n_3 51 (fun _ => 0), cin g n_4 51 (fun _ => 0), cin g n_5 8 (fun _ => 0), cin g n_6 200 (fun _ => 0), cch g n_7 120 f2]) (fun f2 => rfl) (fun lf_56 hL H locs hw => ?_)
  refine lv_dup hx hb dX11_init_346 rfl ?_
  refine lv_bipush (v := 49) hx hb dX11_init_347 (by decide) ?_
  refine lv_bipush (v := 111) hx hb dX11_init_349 (by decide) ?_
  refine rcL hf hk hw 7 rfl (k := 49) hL (vp_in_nI (n := 49) (by omega) (by omega)) rfl rfl dX11_init_351 (W' := fun f2 => [cob oh 11 [.ref n_1, .ref n_2, .ref n_3, .ref n_4, .int 0, .ref n_5, .ref n_6, .int 0, .null, .int 0, .int 0, .int 0, .int 0, .null, .int 0, .null, .null, .null, .null, .null, .null, .int 0, .int 0, .int 0], cin g n_1 51 (fun _ => 0), cin g n_2 51 (fun _ => 0), cin g n_3 51 (fun _ => 0), cin g n_4 51 (fun _ => 0), cin g n_5 8 (fun _ => 0), cin g n_6 200 (fun _ => 0), cch g n_7 120 f2]) (fun f2 => rfl) (fun lf_57 hL H locs hw => ?_)
  refine lv_dup hx hb dX11_init_352 rfl ?_
  refine lv_bipush (v := 50) hx hb dX11_init_353 (by decide) ?_
  refine lv_bipush (v := 103) hx hb dX11_init_355 (by decide) ?_
  refine rcL hf hk hw 7 rfl (k := 50) hL (vp_in_nI (n := 50) (by omega) (by omega)) rfl rfl dX11_init_357 (W' := fun f2 => [cob oh 11 [.ref n_1, .ref n_2, .ref n_3, .ref n_4, .int 0, .ref n_5, .ref n_6, .int 0, .null, .int 0, .int 0, .int 0, .int 0, .null, .int 0, .null, .null, .null, .null, .null, .null, .int 0, .int 0, .int 0], cin g n_1 51 (fun _ => 0), cin g n_2 51 (fun _ => 0), cin g n_3 51 (fun _ => 0), cin g n_4 51 (fun _ => 0), cin g n_5 8 (fun _ => 0), cin g n_6 200 (fun _ => 0), cch g n_7 120 f2]) (fun f2 => rfl) (fun lf_58 hL H locs hw => ?_)
  refine lv_dup hx hb dX11_init_358 rfl ?_
  refine lv_bipush (v := 51) hx hb dX11_init_359 (by decide) ?_
  refine lv_bipush (v := 32) hx hb dX11_init_361 (by decide) ?_
  refine rcL hf hk hw 7 rfl (k := 51) hL (vp_in_nI (n := 51) (by omega) (by omega)) rfl rfl dX11_init_363 (W' := fun f2 => [cob oh 11 [.ref n_1, .ref n_2, .ref n_3, .ref n_4, .int 0, .ref n_5, .ref n_6, .int 0, .null, .int 0, .int 0, .int 0, .int 0, .null, .int 0, .null, .null, .null, .null, .null, .null, .int 0, .int 0, .int 0], cin g n_1 51 (fun _ => 0), cin g n_2 51 (fun _ => 0), cin g n_3 51 (fun _ => 0), cin g n_4 51 (fun _ => 0), cin g n_5 8 (fun _ => 0), cin g n_6 200 (fun _ => 0), cch g n_7 120 f2]) (fun f2 => rfl) (fun lf_59 hL H locs hw => ?_)
  refine lv_dup hx hb dX11_init_364 rfl ?_
  refine lv_bipush (v := 52) hx hb dX11_init_365 (by decide) ?_
  refine lv_bipush (v := 32) hx hb dX11_init_367 (by decide) ?_
  refine rcL hf hk hw 7 rfl (k := 52) hL (vp_in_nI (n := 52) (by omega) (by omega)) rfl rfl dX11_init_369 (W' := fun f2 => [cob oh 11 [.ref n_1, .ref n_2, .ref n_3, .ref n_4, .int 0, .ref n_5, .ref n_6, .int 0, .null, .int 0, .int 0, .int 0, .int 0, .null, .int 0, .null, .null, .null, .null, .null, .null, .int 0, .int 0, .int 0], cin g n_1 51 (fun _ => 0), cin g n_2 51 (fun _ => 0), cin g n_3 51 (fun _ => 0), cin g n_4 51 (fun _ => 0), cin g n_5 8 (fun _ => 0), cin g n_6 200 (fun _ => 0), cch g n_7 120 f2]) (fun f2 => rfl) (fun lf_60 hL H locs hw => ?_)
  refine lv_dup hx hb dX11_init_370 rfl ?_
  refine lv_bipush (v := 53) hx hb dX11_init_371 (by decide) ?_
  refine lv_bipush (v := 32) hx hb dX11_init_373 (by decide) ?_
  refine rcL hf hk hw 7 rfl (k := 53) hL (vp_in_nI (n := 53) (by omega) (by omega)) rfl rfl dX11_init_375 (W' := fun f2 => [cob oh 11 [.ref n_1, .ref n_2, .ref n_3, .ref n_4, .int 0, .ref n_5, .ref n_6, .int 0, .null, .int 0, .int 0, .int 0, .int 0, .null, .int 0, .null, .null, .null, .null, .null, .null, .int 0, .int 0, .int 0], cin g n_1 51 (fun _ => 0), cin g n_2 51 (fun _ => 0), cin g n_3 51 (fun _ => 0), cin g n_4 51 (fun _ => 0), cin g n_5 8 (fun _ => 0), cin g n_6 200 (fun _ => 0), cch g n_7 120 f2]) (fun f2 => rfl) (fun lf_61 hL H locs hw => ?_)
  refine lv_dup hx hb dX11_init_376 rfl ?_
  refine lv_bipush (v := 54) hx hb dX11_init_377 (by decide) ?_
  refine lv_bipush (v := 32) hx hb dX11_init_379 (by decide) ?_
  refine rcL hf hk hw 7 rfl (k := 54) hL (vp_in_nI (n := 54) (by omega) (by omega)) rfl rfl dX11_init_381 (W' := fun f2 => [cob oh 11 [.ref n_1, .ref n_2, .ref n_3, .ref n_4, .int 0, .ref n_5, .ref n_6, .int 0, .null, .int 0, .int 0, .int 0, .int 0, .null, .int 0, .null, .null, .null, .null, .null, .null, .int 0, .int 0, .int 0], cin g n_1 51 (fun _ => 0), cin g n_2 51 (fun _ => 0), cin g n_3 51 (fun _ => 0), cin g n_4 51 (fun _ => 0), cin g n_5 8 (fun _ => 0), cin g n_6 200 (fun _ => 0), cch g n_7 120 f2]) (fun f2 => rfl) (fun lf_62 hL H locs hw => ?_)
  refine lv_dup hx hb dX11_init_382 rfl ?_
  refine lv_bipush (v := 55) hx hb dX11_init_383 (by decide) ?_
  refine lv_bipush (v := 32) hx hb dX11_init_385 (by decide) ?_
  refine rcL hf hk hw 7 rfl (k := 55) hL (vp_in_nI (n := 55) (by omega) (by omega)) rfl rfl dX11_init_387 (W' := fun f2 => [cob oh 11 [.ref n_1, .ref n_2, .ref n_3, .ref n_4, .int 0, .ref n_5, .ref n_6, .int 0, .null, .int 0, .int 0, .int 0, .int 0, .null, .int 0, .null, .null, .null, .null, .null, .null, .int 0, .int 0, .int 0], cin g n_1 51 (fun _ => 0), cin g n_2 51 (fun _ => 0), cin g n_3 51 (fun _ => 0), cin g n_4 51 (fun _ => 0), cin g n_5 8 (fun _ => 0), cin g n_6 200 (fun _ => 0), cch g n_7 120 f2]) (fun f2 => rfl) (fun lf_63 hL H locs hw => ?_)
  refine lv_dup hx hb dX11_init_388 rfl ?_
  refine lv_bipush (v := 56) hx hb dX11_init_389 (by decide) ?_
  refine lv_bipush (v := 97) hx hb dX11_init_391 (by decide) ?_
  refine rcL hf hk hw 7 rfl (k := 56) hL (vp_in_nI (n := 56) (by omega) (by omega)) rfl rfl dX11_init_393 (W' := fun f2 => [cob oh 11 [.ref n_1, .ref n_2, .ref n_3, .ref n_4, .int 0, .ref n_5, .ref n_6, .int 0, .null, .int 0, .int 0, .int 0, .int 0, .null, .int 0, .null, .null, .null, .null, .null, .null, .int 0, .int 0, .int 0], cin g n_1 51 (fun _ => 0), cin g n_2 51 (fun _ => 0), cin g n_3 51 (fun _ => 0), cin g n_4 51 (fun _ => 0), cin g n_5 8 (fun _ => 0), cin g n_6 200 (fun _ => 0), cch g n_7 120 f2]) (fun f2 => rfl) (fun lf_64 hL H locs hw => ?_)
  refine lv_dup hx hb dX11_init_394 rfl ?_
  refine lv_bipush (v := 57) hx hb dX11_init_395 (by decide) ?_
  refine lv_bipush (v := 114) hx hb dX11_init_397 (by decide) ?_
  refine rcL hf hk hw 7 rfl (k := 57) hL (vp_in_nI (n := 57) (by omega) (by omega)) rfl rfl dX11_init_399 (W' := fun f2 => [cob oh 11 [.ref n_1, .ref n_2, .ref n_3, .ref n_4, .int 0, .ref n_5, .ref n_6, .int 0, .null, .int 0, .int 0, .int 0, .int 0, .null, .int 0, .null, .null, .null, .null, .null, .null, .int 0, .int 0, .int 0], cin g n_1 51 (fun _ => 0), cin g n_2 51 (fun _ => 0), cin g n_3 51 (fun _ => 0), cin g n_4 51 (fun _ => 0), cin g n_5 8 (fun _ => 0), cin g n_6 200 (fun _ => 0), cch g n_7 120 f2]) (fun f2 => rfl) (fun lf_65 hL H locs hw => ?_)
  refine lv_dup hx hb dX11_init_400 rfl ?_
  refine lv_bipush (v := 58) hx hb dX11_init_401 (by decide) ?_
  refine lv_bipush (v := 109) hx hb dX11_init_403 (by decide) ?_
  refine rcL hf hk hw 7 rfl (k := 58) hL (vp_in_nI (n := 58) (by omega) (by omega)) rfl rfl dX11_init_405 (W' := fun f2 => [cob oh 11 [.ref n_1, .ref n_2, .ref n_3, .ref n_4, .int 0, .ref n_5, .ref n_6, .int 0, .null, .int 0, .int 0, .int 0, .int 0, .null, .int 0, .null, .null, .null, .null, .null, .null, .int 0, .int 0, .int 0], cin g n_1 51 (fun _ => 0), cin g n_2 51 (fun _ => 0), cin g n_3 51 (fun _ => 0), cin g n_4 51 (fun _ => 0), cin g n_5 8 (fun _ => 0), cin g n_6 200 (fun _ => 0), cch g n_7 120 f2]) (fun f2 => rfl) (fun lf_66 hL H locs hw => ?_)
  refine lv_dup hx hb dX11_init_406 rfl ?_
  refine lv_bipush (v := 59) hx hb dX11_init_407 (by decide) ?_
  refine lv_bipush (v := 115) hx hb dX11_init_409 (by decide) ?_
  refine rcL hf hk hw 7 rfl (k := 59) hL (vp_in_nI (n := 59) (by omega) (by omega)) rfl rfl dX11_init_411 (W' := fun f2 => [cob oh 11 [.ref n_1, .ref n_2, .ref n_3, .ref n_4, .int 0, .ref n_5, .ref n_6, .int 0, .null, .int 0, .int 0, .int 0, .int 0, .null, .int 0, .null, .null, .null, .null, .null, .null, .int 0, .int 0, .int 0], cin g n_1 51 (fun _ => 0), cin g n_2 51 (fun _ => 0), cin g n_3 51 (fun _ => 0), cin g n_4 51 (fun _ => 0), cin g n_5 8 (fun _ => 0), cin g n_6 200 (fun _ => 0), cch g n_7 120 f2]) (fun f2 => rfl) (fun lf_67 hL H locs hw => ?_)
  refine lv_dup hx hb dX11_init_412 rfl ?_
  refine lv_bipush (v := 60) hx hb dX11_init_413 (by decide) ?_
  refine lv_bipush (v := 32) hx hb dX11_init_415 (by decide) ?_
  refine rcL hf hk hw 7 rfl (k := 60) hL (vp_in_nI (n := 60) (by omega) (by omega)) rfl rfl dX11_init_417 (W' := fun f2 => [cob oh 11 [.ref n_1, .ref n_2, .ref n_3, .ref n_4, .int 0, .ref n_5, .ref n_6, .int 0, .null, .int 0, .int 0, .int 0, .int 0, .null, .int 0, .null, .null, .null, .null, .null, .null, .int 0, .int 0, .int 0], cin g n_1 51 (fun _ => 0), cin g n_2 51 (fun _ => 0), cin g n_3 51 (fun _ => 0), cin g n_4 51 (fun _ => 0), cin g n_5 8 (fun _ => 0), cin g n_6 200 (fun _ => 0), cch g n_7 120 f2]) (fun f2 => rfl) (fun lf_68 hL H locs hw => ?_)
  refine lv_dup hx hb dX11_init_418 rfl ?_
  refine lv_bipush (v := 61) hx hb dX11_init_419 (by decide) ?_
  refine lv_bipush (v := 32) hx hb dX11_init_421 (by decide) ?_
  refine rcL hf hk hw 7 rfl (k := 61) hL (vp_in_nI (n := 61) (by omega) (by omega)) rfl rfl dX11_init_423 (W' := fun f2 => [cob oh 11 [.ref n_1, .ref n_2, .ref n_3, .ref n_4, .int 0, .ref n_5, .ref n_6, .int 0, .null, .int 0, .int 0, .int 0, .int 0, .null, .int 0, .null, .null, .null, .null, .null, .null, .int 0, .int 0, .int 0], cin g n_1 51 (fun _ => 0), cin g n_2 51 (fun _ => 0), cin g n_3 51 (fun _ => 0), cin g n_4 51 (fun _ => 0), cin g n_5 8 (fun _ => 0), cin g n_6 200 (fun _ => 0), cch g n_7 120 f2]) (fun f2 => rfl) (fun lf_69 hL H locs hw => ?_)
  refine lv_dup hx hb dX11_init_424 rfl ?_
  refine lv_bipush (v := 62) hx hb dX11_init_425 (by decide) ?_
  refine lv_bipush (v := 32) hx hb dX11_init_427 (by decide) ?_
  refine rcL hf hk hw 7 rfl (k := 62) hL (vp_in_nI (n := 62) (by omega) (by omega)) rfl rfl dX11_init_429 (W' := fun f2 => [cob oh 11 [.ref n_1, .ref n_2, .ref n_3, .ref n_4, .int 0, .ref n_5, .ref n_6, .int 0, .null, .int 0, .int 0, .int 0, .int 0, .null, .int 0, .null, .null, .null, .null, .null, .null, .int 0, .int 0, .int 0], cin g n_1 51 (fun _ => 0), cin g n_2 51 (fun _ => 0), cin g n_3 51 (fun _ => 0), cin g n_4 51 (fun _ => 0), cin g n_5 8 (fun _ => 0), cin g n_6 200 (fun _ => 0), cch g n_7 120 f2]) (fun f2 => rfl) (fun lf_70 hL H locs hw => ?_)
  refine lv_dup hx hb dX11_init_430 rfl ?_
  refine lv_bipush (v := 63) hx hb dX11_init_431 (by decide) ?_
  refine lv_bipush (v := 32) hx hb dX11_init_433 (by decide) ?_
  refine rcL hf hk hw 7 rfl (k := 63) hL (vp_in_nI (n := 63) (by omega) (by omega)) rfl rfl dX11_init_435 (W' := fun f2 => [cob oh 11 [.ref n_1, .ref n_2, .ref n_3, .ref n_4, .int 0, .ref n_5, .ref n_6, .int 0, .null, .int 0, .int 0, .int 0, .int 0, .null, .int 0, .null, .null, .null, .null, .null, .null, .int 0, .int 0, .int 0], cin g n_1 51 (fun _ => 0), cin g n_2 51 (fun _ => 0), cin g n_3 51 (fun _ => 0), cin g n_4 51 (fun _ => 0), cin g n_5 8 (fun _ => 0), cin g n_6 200 (fun _ => 0), cch g n_7 120 f2]) (fun f2 => rfl) (fun lf_71 hL H locs hw => ?_)
  refine lv_dup hx hb dX11_init_436 rfl ?_
  refine lv_bipush (v := 64) hx hb dX11_init_437 (by decide) ?_
  refine lv_bipush (v := 104) hx hb dX11_init_439 (by decide) ?_
  refine rcL hf hk hw 7 rfl (k := 64) hL (vp_in_nI (n := 64) (by omega) (by omega)) rfl rfl dX11_init_441 (W' := fun f2 => [cob oh 11 [.ref n_1, .ref n_2, .ref n_3, .ref n_4, .int 0, .ref n_5, .ref n_6, .int 0, .null, .int 0, .int 0, .int 0, .int 0, .null, .int 0, .null, .null, .null, .null, .null, .null, .int 0, .int 0, .int 0], cin g n_1 51 (fun _ => 0), cin g n_2 51 (fun _ => 0), cin g n_3 51 (fun _ => 0), cin g n_4 51 (fun _ => 0), cin g n_5 8 (fun _ => 0), cin g n_6 200 (fun _ => 0), cch g n_7 120 f2]) (fun f2 => rfl) (fun lf_72 hL H locs hw => ?_)
  refine lv_dup hx hb dX11_init_442 rfl ?_
  refine lv_bipush (v := 65) hx hb dX11_init_443 (by decide) ?_
  refine lv_bipush (v := 117) hx hb dX11_init_445 (by decide) ?_
  refine rcL hf hk hw 7 rfl (k := 65) hL (vp_in_nI (n := 65) (by omega) (by omega)) rfl rfl dX11_init_447 (W' := fun f2 => [cob oh 11 [.ref n_1, .ref n_2, .ref n_3, .ref n_4, .int 0, .ref n_5, .ref n_6, .int 0, .null, .int 0, .int 0, .int 0, .int 0, .null, .int 0, .null, .null, .null, .null, .null, .null, .int 0, .int 0, .int 0], cin g n_1 51 (fun _ => 0), cin g n_2 51 (fun _ => 0), cin g n_3 51 (fun _ => 0), cin g n_4 51 (fun _ => 0), cin g n_5 8 (fun _ => 0), cin g n_6 200 (fun _ => 0), cch g n_7 120 f2]) (fun f2 => rfl) (fun lf_73 hL H locs hw => ?_)
  refine lv_dup hx hb dX11_init_448 rfl ?_
  refine lv_bipush (v := 66) hx hb dX11_init_449 (by decide) ?_
  refine lv_bipush (v := 109) hx hb dX11_init_451 (by decide) ?_
  refine rcL hf hk hw 7 rfl (k := 66) hL (vp_in_nI (n := 66) (by omega) (by omega)) rfl rfl dX11_init_453 (W' := fun f2 => [cob oh 11 [.ref n_1, .ref n_2, .ref n_3, .ref n_4, .int 0, .ref n_5, .ref n_6, .int 0, .null, .int 0, .int 0, .int 0, .int 0, .null, .int 0, .null, .null, .null, .null, .null, .null, .int 0, .int 0, .int 0], cin g n_1 51 (fun _ => 0), cin g n_2 51 (fun _ => 0), cin g n_3 51 (fun _ => 0), cin g n_4 51 (fun _ => 0), cin g n_5 8 (fun _ => 0), cin g n_6 200 (fun _ => 0), cch g n_7 120 f2]) (fun f2 => rfl) (fun lf_74 hL H locs hw => ?_)
  refine lv_dup hx hb dX11_init_454 rfl ?_
  refine lv_bipush (v := 67) hx hb dX11_init_455 (by decide) ?_
  refine lv_bipush (v := 32) hx hb dX11_init_457 (by decide) ?_
  refine rcL hf hk hw 7 rfl (k := 67) hL (vp_in_nI (n := 67) (by omega) (by omega)) rfl rfl dX11_init_459 (W' := fun f2 => [cob oh 11 [.ref n_1, .ref n_2, .ref n_3, .ref n_4, .int 0, .ref n_5, .ref n_6, .int 0, .null, .int 0, .int 0, .int 0, .int 0, .null, .int 0, .null, .null, .null, .null, .null, .null, .int 0, .int 0, .int 0], cin g n_1 51 (fun _ => 0), cin g n_2 51 (fun _ => 0), cin g n_3 51 (fun _ => 0), cin g n_4 51 (fun _ => 0), cin g n_5 8 (fun _ => 0), cin g n_6 200 (fun _ => 0), cch g n_7 120 f2]) (fun f2 => rfl) (fun lf_75 hL H locs hw => ?_)
  refine lv_dup hx hb dX11_init_460 rfl ?_
  refine lv_bipush (v := 68) hx hb dX11_init_461 (by decide) ?_
  refine lv_bipush (v := 32) hx hb dX11_init_463 (by decide) ?_
  refine rcL hf hk hw 7 rfl (k := 68) hL (vp_in_nI (n := 68) (by omega) (by omega)) rfl rfl dX11_init_465 (W' := fun f2 => [cob oh 11 [.ref n_1, .ref n_2, .ref n_3, .ref n_4, .int 0, .ref n_5, .ref n_6, .int 0, .null, .int 0, .int 0, .int 0, .int 0, .null, .int 0, .null, .null, .null, .null, .null, .null, .int 0, .int 0, .int 0], cin g n_1 51 (fun _ => 0), cin g n_2 51 (fun _ => 0), cin g n_3 51 (fun _ => 0), cin g n_4 51 (fun _ => 0), cin g n_5 8 (fun _ => 0), cin g n_6 200 (fun _ => 0), cch g n_7 120 f2]) (fun f2 => rfl) (fun lf_76 hL H locs hw => ?_)
  refine lv_dup hx hb dX11_init_466 rfl ?_
  refine lv_bipush (v := 69) hx hb dX11_init_467 (by decide) ?_
  refine lv_bipush (v := 32) hx hb dX11_init_469 (by decide) ?_
  refine rcL hf hk hw 7 rfl (k := 69) hL (vp_in_nI (n := 69) (by omega) (by omega)) rfl rfl dX11_init_471 (W' := fun f2 => [cob oh 11 [.ref n_1, .ref n_2, .ref n_3, .ref n_4, .int 0, .ref n_5, .ref n_6, .int 0, .null, .int 0, .int 0, .int 0, .int 0, .null, .int 0, .null, .null, .null, .null, .null, .null, .int 0, .int 0, .int 0], cin g n_1 51 (fun _ => 0), cin g n_2 51 (fun _ => 0), cin g n_3 51 (fun _ => 0), cin g n_4 51 (fun _ => 0), cin g n_5 8 (fun _ => 0), cin g n_6 200 (fun _ => 0), cch g n_7 120 f2]) (fun f2 => rfl) (fun lf_77 hL H locs hw => ?_)
  refine lv_dup hx hb dX11_init_472 rfl ?_
  refine lv_bipush (v := 70) hx hb dX11_init_473 (by decide) ?_
  refine lv_bipush (v := 32) hx hb dX11_init_475 (by decide) ?_
  refine rcL hf hk hw 7 rfl (k := 70) hL (vp_in_nI (n := 70) (by omega) (by omega)) rfl rfl dX11_init_477 (W' := fun f2 => [cob oh 11 [.ref n_1, .ref n_2, .ref n_3, .ref n_4, .int 0, .ref n_5, .ref n_6, .int 0, .null, .int 0, .int 0, .int 0, .int 0, .null, .int 0, .null, .null, .null, .null, .null, .null, .int 0, .int 0, .int 0], cin g n_1 51 (fun _ => 0), cin g n_2 51 (fun _ => 0), cin g n_3 51 (fun _ => 0), cin g n_4 51 (fun _ => 0), cin g n_5 8 (fun _ => 0), cin g n_6 200 (fun _ => 0), cch g n_7 120 f2]) (fun f2 => rfl) (fun lf_78 hL H locs hw => ?_)
  refine lv_dup hx hb dX11_init_478 rfl ?_
  refine lv_bipush (v := 71) hx hb dX11_init_479 (by decide) ?_
  refine lv_bipush (v := 32) hx hb dX11_init_481 (by decide) ?_
  refine rcL hf hk hw 7 rfl (k := 71) hL (vp_in_nI (n := 71) (by omega) (by omega)) rfl rfl dX11_init_483 (W' := fun f2 => [cob oh 11 [.ref n_1, .ref n_2, .ref n_3, .ref n_4, .int 0, .ref n_5, .ref n_6, .int 0, .null, .int 0, .int 0, .int 0, .int 0, .null, .int 0, .null, .null, .null, .null, .null, .null, .int 0, .int 0, .int 0], cin g n_1 51 (fun _ => 0), cin g n_2 51 (fun _ => 0), cin g n_3 51 (fun _ => 0), cin g n_4 51 (fun _ => 0), cin g n_5 8 (fun _ => 0), cin g n_6 200 (fun _ => 0), cch g n_7 120 f2]) (fun f2 => rfl) (fun lf_79 hL H locs hw => ?_)
  refine lv_dup hx hb dX11_init_484 rfl ?_
  refine lv_bipush (v := 72) hx hb dX11_init_485 (by decide) ?_
  refine lv_bipush (v := 100) hx hb dX11_init_487 (by decide) ?_
  refine rcL hf hk hw 7 rfl (k := 72) hL (vp_in_nI (n := 72) (by omega) (by omega)) rfl rfl dX11_init_489 (W' := fun f2 => [cob oh 11 [.ref n_1, .ref n_2, .ref n_3, .ref n_4, .int 0, .ref n_5, .ref n_6, .int 0, .null, .int 0, .int 0, .int 0, .int 0, .null, .int 0, .null, .null, .null, .null, .null, .null, .int 0, .int 0, .int 0], cin g n_1 51 (fun _ => 0), cin g n_2 51 (fun _ => 0), cin g n_3 51 (fun _ => 0), cin g n_4 51 (fun _ => 0), cin g n_5 8 (fun _ => 0), cin g n_6 200 (fun _ => 0), cch g n_7 120 f2]) (fun f2 => rfl) (fun lf_80 hL H locs hw => ?_)
  refine lv_dup hx hb dX11_init_490 rfl ?_
  refine lv_bipush (v := 73) hx hb dX11_init_491 (by decide) ?_
  refine lv_bipush (v := 114) hx hb dX11_init_493 (by decide) ?_
  refine rcL hf hk hw 7 rfl (k := 73) hL (vp_in_nI (n := 73) (by omega) (by omega)) rfl rfl dX11_init_495 (W' := fun f2 => [cob oh 11 [.ref n_1, .ref n_2, .ref n_3, .ref n_4, .int 0, .ref n_5, .ref n_6, .int 0, .null, .int 0, .int 0, .int 0, .int 0, .null, .int 0, .null, .null, .null, .null, .null, .null, .int 0, .int 0, .int 0], cin g n_1 51 (fun _ => 0), cin g n_2 51 (fun _ => 0), cin g n_3 51 (fun _ => 0), cin g n_4 51 (fun _ => 0), cin g n_5 8 (fun _ => 0), cin g n_6 200 (fun _ => 0), cch g n_7 120 f2]) (fun f2 => rfl) (fun lf_81 hL H locs hw => ?_)
  refine lv_dup hx hb dX11_init_496 rfl ?_
  refine lv_bipush (v := 74) hx hb dX11_init_497 (by decide) ?_
  refine lv_bipush (v := 101) hx hb dX11_init_499 (by decide) ?_
  refine rcL hf hk hw 7 rfl (k := 74) hL (vp_in_nI (n := 74) (by omega) (by omega)) rfl rfl dX11_init_501 (W' := fun f2 => [cob oh 11 [.ref n_1, .ref n_2, .ref n_3, .ref n_4, .int 0, .ref n_5, .ref n_6, .int 0, .null, .int 0, .int 0, .int 0, .int 0, .null, .int 0, .null, .null, .null, .null, .null, .null, .int 0, .int 0, .int 0], cin g n_1 51 (fun _ => 0), cin g n_2 51 (fun _ => 0), cin g n_3 51 (fun _ => 0), cin g n_4 51 (fun _ => 0), cin g n_5 8 (fun _ => 0), cin g n_6 200 (fun _ => 0), cch g n_7 120 f2]) (fun f2 => rfl) (fun lf_82 hL H locs hw => ?_)
  refine lv_dup hx hb dX11_init_502 rfl ?_
  refine lv_bipush (v := 75) hx hb dX11_init_503 (by decide) ?_
  refine lv_bipush (v := 97) hx hb dX11_init_505 (by decide) ?_
  refine rcL hf hk hw 7 rfl (k := 75) hL (vp_in_nI (n := 75) (by omega) (by omega)) rfl rfl dX11_init_507 (W' := fun f2 => [cob oh 11 [.ref n_1, .ref n_2, .ref n_3, .ref n_4, .int 0, .ref n_5, .ref n_6, .int 0, .null, .int 0, .int 0, .int 0, .int 0, .null, .int 0, .null, .null, .null, .null, .null, .null, .int 0, .int 0, .int 0], cin g n_1 51 (fun _ => 0), cin g n_2 51 (fun _ => 0), cin g n_3 51 (fun _ => 0), cin g n_4 51 (fun _ => 0), cin g n_5 8 (fun _ => 0), cin g n_6 200 (fun _ => 0), cch g n_7 120 f2]) (fun f2 => rfl) (fun lf_83 hL H locs hw => ?_)
  refine lv_dup hx hb dX11_init_508 rfl ?_
  refine lv_bipush (v := 76) hx hb dX11_init_509 (by decide) ?_
  refine lv_bipush (v := 100) hx hb dX11_init_511 (by decide) ?_
  refine rcL hf hk hw 7 rfl (k := 76) hL (vp_in_nI (n := 76) (by omega) (by omega)) rfl rfl dX11_init_513 (W' := fun f2 => [cob oh 11 [.ref n_1, .ref n_2, .ref n_3, .ref n_4, .int 0, .ref n_5, .ref n_6, .int 0, .null, .int 0, .int 0, .int 0, .int 0, .null, .int 0, .null, .null, .null, .null, .null, .null, .int 0, .int 0, .int 0], cin g n_1 51 (fun _ => 0), cin g n_2 51 (fun _ => 0), cin g n_3 51 (fun _ => 0), cin g n_4 51 (fun _ => 0), cin g n_5 8 (fun _ => 0), cin g n_6 200 (fun _ => 0), cch g n_7 120 f2]) (fun f2 => rfl) (fun lf_84 hL H locs hw => ?_)
  refine lv_dup hx hb dX11_init_514 rfl ?_
  refine lv_bipush (v := 77) hx hb dX11_init_515 (by decide) ?_
  refine lv_bipush (v := 32) hx hb dX11_init_517 (by decide) ?_
  refine rcL hf hk hw 7 rfl (k := 77) hL (vp_in_nI (n := 77) (by omega) (by omega)) rfl rfl dX11_init_519 (W' := fun f2 => [cob oh 11 [.ref n_1, .ref n_2, .ref n_3, .ref n_4, .int 0, .ref n_5, .ref n_6, .int 0, .null, .int 0, .int 0, .int 0, .int 0, .null, .int 0, .null, .null, .null, .null, .null, .null, .int 0, .int 0, .int 0], cin g n_1 51 (fun _ => 0), cin g n_2 51 (fun _ => 0), cin g n_3 51 (fun _ => 0), cin g n_4 51 (fun _ => 0), cin g n_5 8 (fun _ => 0), cin g n_6 200 (fun _ => 0), cch g n_7 120 f2]) (fun f2 => rfl) (fun lf_85 hL H locs hw => ?_)
  refine lv_dup hx hb dX11_init_520 rfl ?_
  refine lv_bipush (v := 78) hx hb dX11_init_521 (by decide) ?_
  refine lv_bipush (v := 32) hx hb dX11_init_523 (by decide) ?_
  refine rcL hf hk hw 7 rfl (k := 78) hL (vp_in_nI (n := 78) (by omega) (by omega)) rfl rfl dX11_init_525 (W' := fun f2 => [cob oh 11 [.ref n_1, .ref n_2, .ref n_3, .ref n_4, .int 0, .ref n_5, .ref n_6, .int 0, .null, .int 0, .int 0, .int 0, .int 0, .null, .int 0, .null, .null, .null, .null, .null, .null, .int 0, .int 0, .int 0], cin g n_1 51 (fun _ => 0), cin g n_2 51 (fun _ => 0), cin g n_3 51 (fun _ => 0), cin g n_4 51 (fun _ => 0), cin g n_5 8 (fun _ => 0), cin g n_6 200 (fun _ => 0), cch g n_7 120 f2]) (fun f2 => rfl) (fun lf_86 hL H locs hw => ?_)
  refine lv_dup hx hb dX11_init_526 rfl ?_
  refine lv_bipush (v := 79) hx hb dX11_init_527 (by decide) ?_
  refine lv_bipush (v := 32) hx hb dX11_init_529 (by decide) ?_
  refine rcL hf hk hw 7 rfl (k := 79) hL (vp_in_nI (n := 79) (by omega) (by omega)) rfl rfl dX11_init_531 (W' := fun f2 => [cob oh 11 [.ref n_1, .ref n_2, .ref n_3, .ref n_4, .int 0, .ref n_5, .ref n_6, .int 0, .null, .int 0, .int 0, .int 0, .int 0, .null, .int 0, .null, .null, .null, .null, .null, .null, .int 0, .int 0, .int 0], cin g n_1 51 (fun _ => 0), cin g n_2 51 (fun _ => 0), cin g n_3 51 (fun _ => 0), cin g n_4 51 (fun _ => 0), cin g n_5 8 (fun _ => 0), cin g n_6 200 (fun _ => 0), cch g n_7 120 f2]) (fun f2 => rfl) (fun lf_87 hL H locs hw => ?_)
  refine lv_dup hx hb dX11_init_532 rfl ?_
  refine lv_bipush (v := 80) hx hb dX11_init_533 (by decide) ?_
  refine lv_bipush (v := 108) hx hb dX11_init_535 (by decide) ?_
  refine rcL hf hk hw 7 rfl (k := 80) hL (vp_in_nI (n := 80) (by omega) (by omega)) rfl rfl dX11_init_537 (W' := fun f2 => [cob oh 11 [.ref n_1, .ref n_2, .ref n_3, .ref n_4, .int 0, .ref n_5, .ref n_6, .int 0, .null, .int 0, .int 0, .int 0, .int 0, .null, .int 0, .null, .null, .null, .null, .null, .null, .int 0, .int 0, .int 0], cin g n_1 51 (fun _ => 0), cin g n_2 51 (fun _ => 0), cin g n_3 51 (fun _ => 0), cin g n_4 51 (fun _ => 0), cin g n_5 8 (fun _ => 0), cin g n_6 200 (fun _ => 0), cch g n_7 120 f2]) (fun f2 => rfl) (fun lf_88 hL H locs hw => ?_)
  refine lv_dup hx hb dX11_init_538 rfl ?_
  refine lv_bipush (v := 81) hx hb dX11_init_539 (by decide) ?_
  refine lv_bipush (v := 111) hx hb dX11_init_541 (by decide) ?_
  refine rcL hf hk hw 7 rfl (k := 81) hL (vp_in_nI (n := 81) (by omega) (by omega)) rfl rfl dX11_init_543 (W' := fun f2 => [cob oh 11 [.ref n_1, .ref n_2, .ref n_3, .ref n_4, .int 0, .ref n_5, .ref n_6, .int 0, .null, .int 0, .int 0, .int 0, .int 0, .null, .int 0, .null, .null, .null, .null, .null, .null, .int 0, .int 0, .int 0], cin g n_1 51 (fun _ => 0), cin g n_2 51 (fun _ => 0), cin g n_3 51 (fun _ => 0), cin g n_4 51 (fun _ => 0), cin g n_5 8 (fun _ => 0), cin g n_6 200 (fun _ => 0), cch g n_7 120 f2]) (fun f2 => rfl) (fun lf_89 hL H locs hw => ?_)
  refine lv_dup hx hb dX11_init_544 rfl ?_
  refine lv_bipush (v := 82) hx hb dX11_init_545 (by decide) ?_
  refine lv_bipush (v := 118) hx hb dX11_init_547 (by decide) ?_
  refine rcL hf hk hw 7 rfl (k := 82) hL (vp_in_nI (n := 82) (by omega) (by omega)) rfl rfl dX11_init_549 (W' := fun f2 => [cob oh 11 [.ref n_1, .ref n_2, .ref n_3, .ref n_4, .int 0, .ref n_5, .ref n_6, .int 0, .null, .int 0, .int 0, .int 0, .int 0, .null, .int 0, .null, .null, .null, .null, .null, .null, .int 0, .int 0, .int 0], cin g n_1 51 (fun _ => 0), cin g n_2 51 (fun _ => 0), cin g n_3 51 (fun _ => 0), cin g n_4 51 (fun _ => 0), cin g n_5 8 (fun _ => 0), cin g n_6 200 (fun _ => 0), cch g n_7 120 f2]) (fun f2 => rfl) (fun lf_90 hL H locs hw => ?_)
  refine lv_dup hx hb dX11_init_550 rfl ?_
  refine lv_bipush (v := 83) hx hb dX11_init_551 (by decide) ?_
  refine lv_bipush (v := 101) hx hb dX11_init_553 (by decide) ?_
  refine rcL hf hk hw 7 rfl (k := 83) hL (vp_in_nI (n := 83) (by omega) (by omega)) rfl rfl dX11_init_555 (W' := fun f2 => [cob oh 11 [.ref n_1, .ref n_2, .ref n_3, .ref n_4, .int 0, .ref n_5, .ref n_6, .int 0, .null, .int 0, .int 0, .int 0, .int 0, .null, .int 0, .null, .null, .null, .null, .null, .null, .int 0, .int 0, .int 0], cin g n_1 51 (fun _ => 0), cin g n_2 51 (fun _ => 0), cin g n_3 51 (fun _ => 0), cin g n_4 51 (fun _ => 0), cin g n_5 8 (fun _ => 0), cin g n_6 200 (fun _ => 0), cch g n_7 120 f2]) (fun f2 => rfl) (fun lf_91 hL H locs hw => ?_)
  refine lv_dup hx hb dX11_init_556 rfl ?_
  refine lv_bipush (v := 84) hx hb dX11_init_557 (by decide) ?_
  refine lv_bipush (v := 32) hx hb dX11_init_559 (by decide) ?_
  refine rcL hf hk hw 7 rfl (k := 84) hL (vp_in_nI (n := 84) (by omega) (by omega)) rfl rfl dX11_init_561 (W' := fun f2 => [cob oh 11 [.ref n_1, .ref n_2, .ref n_3, .ref n_4, .int 0, .ref n_5, .ref n_6, .int 0, .null, .int 0, .int 0, .int 0, .int 0, .null, .int 0, .null, .null, .null, .null, .null, .null, .int 0, .int 0, .int 0], cin g n_1 51 (fun _ => 0), cin g n_2 51 (fun _ => 0), cin g n_3 51 (fun _ => 0), cin g n_4 51 (fun _ => 0), cin g n_5 8 (fun _ => 0), cin g n_6 200 (fun _ => 0), cch g n_7 120 f2]) (fun f2 => rfl) (fun lf_92 hL H locs hw => ?_)
  refine lv_dup hx hb dX11_init_562 rfl ?_
  refine lv_bipush (v := 85) hx hb dX11_init_563 (by decide) ?_
  refine lv_bipush (v := 32) hx hb dX11_init_565 (by decide) ?_
  refine rcL hf hk hw 7 rfl (k := 85) hL (vp_in_nI (n := 85) (by omega) (by omega)) rfl rfl dX11_init_567 (W' := fun f2 => [cob oh 11 [.ref n_1, .ref n_2, .ref n_3, .ref n_4, .int 0, .ref n_5, .ref n_6, .int 0, .null, .int 0, .int 0, .int 0, .int 0, .null, .int 0, .null, .null, .null, .null, .null, .null, .int 0, .int 0, .int 0], cin g n_1 51 (fun _ => 0), cin g n_2 51 (fun _ => 0), cin g n_3 51 (fun _ => 0), cin g n_4 51 (fun _ => 0), cin g n_5 8 (fun _ => 0), cin g n_6 200 (fun _ => 0), cch g n_7 120 f2]) (fun f2 => rfl) (fun lf_93 hL H locs hw => ?_)
  refine lv_dup hx hb dX11_init_568 rfl ?_
  refine lv_bipush (v := 86) hx hb dX11_init_569 (by decide) ?_
  refine lv_bipush (v := 32) hx hb dX11_init_571 (by decide) ?_
  refine rcL hf hk hw 7 rfl (k := 86) hL (vp_in_nI (n := 86) (by omega) (by omega)) rfl rfl dX11_init_573 (W' := fun f2 => [cob oh 11 [.ref n_1, .ref n_2, .ref n_3, .ref n_4, .int 0, .ref n_5, .ref n_6, .int 0, .null, .int 0, .int 0, .int 0, .int 0, .null, .int 0, .null, .null, .null, .null, .null, .null, .int 0, .int 0, .int 0], cin g n_1 51 (fun _ => 0), cin g n_2 51 (fun _ => 0), cin g n_3 51 (fun _ => 0), cin g n_4 51 (fun _ => 0), cin g n_5 8 (fun _ => 0), cin g n_6 200 (fun _ => 0), cch g n_7 120 f2]) (fun f2 => rfl) (fun lf_94 hL H locs hw => ?_)
  refine lv_dup hx hb dX11_init_574 rfl ?_
  refine lv_bipush (v := 87) hx hb dX11_init_575 (by decide) ?_
  refine lv_bipush (v := 32) hx hb dX11_init_577 (by decide) ?_
  refine rcL hf hk hw 7 rfl (k := 87) hL (vp_in_nI (n := 87) (by omega) (by omega)) rfl rfl dX11_init_579 (W' := fun f2 => [cob oh 11 [.ref n_1, .ref n_2, .ref n_3, .ref n_4, .int 0, .ref n_5, .ref n_6, .int 0, .null, .int 0, .int 0, .int 0, .int 0, .null, .int 0, .null, .null, .null, .null, .null, .null, .int 0, .int 0, .int 0], cin g n_1 51 (fun _ => 0), cin g n_2 51 (fun _ => 0), cin g n_3 51 (fun _ => 0), cin g n_4 51 (fun _ => 0), cin g n_5 8 (fun _ => 0), cin g n_6 200 (fun _ => 0), cch g n_7 120 f2]) (fun f2 => rfl) (fun lf_95 hL H locs hw => ?_)
  refine lv_dup hx hb dX11_init_580 rfl ?_
  refine lv_bipush (v := 88) hx hb dX11_init_581 (by decide) ?_
  refine lv_bipush (v := 108) hx hb dX11_init_583 (by decide) ?_
  refine rcL hf hk hw 7 rfl (k := 88) hL (vp_in_nI (n := 88) (by omega) (by omega)) rfl rfl dX11_init_585 (W' := fun f2 => [cob oh 11 [.ref n_1, .ref n_2, .ref n_3, .ref n_4, .int 0, .ref n_5, .ref n_6, .int 0, .null, .int 0, .int 0, .int 0, .int 0, .null, .int 0, .null, .null, .null, .null, .null, .null, .int 0, .int 0, .int 0], cin g n_1 51 (fun _ => 0), cin g n_2 51 (fun _ => 0), cin g n_3 51 (fun _ => 0), cin g n_4 51 (fun _ => 0), cin g n_5 8 (fun _ => 0), cin g n_6 200 (fun _ => 0), cch g n_7 120 f2]) (fun f2 => rfl) (fun lf_96 hL H locs hw => ?_)
  refine lv_dup hx hb dX11_init_586 rfl ?_
  refine lv_bipush (v := 89) hx hb dX11_init_587 (by decide) ?_
  refine lv_bipush (v := 97) hx hb dX11_init_589 (by decide) ?_
  refine rcL hf hk hw 7 rfl (k := 89) hL (vp_in_nI (n := 89) (by omega) (by omega)) rfl rfl dX11_init_591 (W' := fun f2 => [cob oh 11 [.ref n_1, .ref n_2, .ref n_3, .ref n_4, .int 0, .ref n_5, .ref n_6, .int 0, .null, .int 0, .int 0, .int 0, .int 0, .null, .int 0, .null, .null, .null, .null, .null, .null, .int 0, .int 0, .int 0], cin g n_1 51 (fun _ => 0), cin g n_2 51 (fun _ => 0), cin g n_3 51 (fun _ => 0), cin g n_4 51 (fun _ => 0), cin g n_5 8 (fun _ => 0), cin g n_6 200 (fun _ => 0), cch g n_7 120 f2]) (fun f2 => rfl) (fun lf_97 hL H locs hw => ?_)
  refine lv_dup hx hb dX11_init_592 rfl ?_
  refine lv_bipush (v := 90) hx hb dX11_init_593 (by decide) ?_
  refine lv_bipush (v := 109) hx hb dX11_init_595 (by decide) ?_
  refine rcL hf hk hw 7 rfl (k := 90) hL (vp_in_nI (n := 90) (by omega) (by omega)) rfl rfl dX11_init_597 (W' := fun f2 => [cob oh 11 [.ref n_1, .ref n_2, .ref n_3, .ref n_4, .int 0, .ref n_5, .ref n_6, .int 0, .null, .int 0, .int 0, .int 0, .int 0, .null, .int 0, .null, .null, .null, .null, .null, .null, .int 0, .int 0, .int 0], cin g n_1 51 (fun _ => 0), cin g n_2 51 (fun _ => 0), cin g n_3 51 (fun _ => 0), cin g n_4 51 (fun _ => 0), cin g n_5 8 (fun _ => 0), cin g n_6 200 (fun _ => 0), cch g n_7 120 f2]) (fun f2 => rfl) (fun lf_98 hL H locs hw => ?_)
  refine lv_dup hx hb dX11_init_598 rfl ?_
  refine lv_bipush (v := 91) hx hb dX11_init_599 (by decide) ?_
  refine lv_bipush (v := 112) hx hb dX11_init_601 (by decide) ?_
  refine rcL hf hk hw 7 rfl (k := 91) hL (vp_in_nI (n := 91) (by omega) (by omega)) rfl rfl dX11_init_603 (W' := fun f2 => [cob oh 11 [.ref n_1, .ref n_2, .ref n_3, .ref n_4, .int 0, .ref n_5, .ref n_6, .int 0, .null, .int 0, .int 0, .int 0, .int 0, .null, .int 0, .null, .null, .null, .null, .null, .null, .int 0, .int 0, .int 0], cin g n_1 51 (fun _ => 0), cin g n_2 51 (fun _ => 0), cin g n_3 51 (fun _ => 0), cin g n_4 51 (fun _ => 0), cin g n_5 8 (fun _ => 0), cin g n_6 200 (fun _ => 0), cch g n_7 120 f2]) (fun f2 => rfl) (fun lf_99 hL H locs hw => ?_)
  refine lv_dup hx hb dX11_init_604 rfl ?_
  refine lv_bipush (v := 92) hx hb dX11_init_605 (by decide) ?_
  refine lv_bipush (v := 32) hx hb dX11_init_607 (by decide) ?_
  refine rcL hf hk hw 7 rfl (k := 92) hL (vp_in_nI (n := 92) (by omega) (by omega)) rfl rfl dX11_init_609 (W' := fun f2 => [cob oh 11 [.ref n_1, .ref n_2, .ref n_3, .ref n_4, .int 0, .ref n_5, .ref n_6, .int 0, .null, .int 0, .int 0, .int 0, .int 0, .null, .int 0, .null, .null, .null, .null, .null, .null, .int 0, .int 0, .int 0], cin g n_1 51 (fun _ => 0), cin g n_2 51 (fun _ => 0), cin g n_3 51 (fun _ => 0), cin g n_4 51 (fun _ => 0), cin g n_5 8 (fun _ => 0), cin g n_6 200 (fun _ => 0), cch g n_7 120 f2]) (fun f2 => rfl) (fun lf_100 hL H locs hw => ?_)
  refine lv_dup hx hb dX11_init_610 rfl ?_
  refine lv_bipush (v := 93) hx hb dX11_init_611 (by decide) ?_
  refine lv_bipush (v := 32) hx hb dX11_init_613 (by decide) ?_
  refine rcL hf hk hw 7 rfl (k := 93) hL (vp_in_nI (n := 93) (by omega) (by omega)) rfl rfl dX11_init_615 (W' := fun f2 => [cob oh 11 [.ref n_1, .ref n_2, .ref n_3, .ref n_4, .int 0, .ref n_5, .ref n_6, .int 0, .null, .int 0, .int 0, .int 0, .int 0, .null, .int 0, .null, .null, .null, .null, .null, .null, .int 0, .int 0, .int 0], cin g n_1 51 (fun _ => 0), cin g n_2 51 (fun _ => 0), cin g n_3 51 (fun _ => 0), cin g n_4 51 (fun _ => 0), cin g n_5 8 (fun _ => 0), cin g n_6 200 (fun _ => 0), cch g n_7 120 f2]) (fun f2 => rfl) (fun lf_101 hL H locs hw => ?_)
  refine lv_dup hx hb dX11_init_616 rfl ?_
  refine lv_bipush (v := 94) hx hb dX11_init_617 (by decide) ?_
  refine lv_bipush (v := 32) hx hb dX11_init_619 (by decide) ?_
  refine rcL hf hk hw 7 rfl (k := 94) hL (vp_in_nI (n := 94) (by omega) (by omega)) rfl rfl dX11_init_621 (W' := fun f2 => [cob oh 11 [.ref n_1, .ref n_2, .ref n_3, .ref n_4, .int 0, .ref n_5, .ref n_6, .int 0, .null, .int 0, .int 0, .int 0, .int 0, .null, .int 0, .null, .null, .null, .null, .null, .null, .int 0, .int 0, .int 0], cin g n_1 51 (fun _ => 0), cin g n_2 51 (fun _ => 0), cin g n_3 51 (fun _ => 0), cin g n_4 51 (fun _ => 0), cin g n_5 8 (fun _ => 0), cin g n_6 200 (fun _ => 0), cch g n_7 120 f2]) (fun f2 => rfl) (fun lf_102 hL H locs hw => ?_)
  refine lv_dup hx hb dX11_init_622 rfl ?_
  refine lv_bipush (v := 95) hx hb dX11_init_623 (by decide) ?_
  refine lv_bipush (v := 32) hx hb dX11_init_625 (by decide) ?_
  refine rcL hf hk hw 7 rfl (k := 95) hL (vp_in_nI (n := 95) (by omega) (by omega)) rfl rfl dX11_init_627 (W' := fun f2 => [cob oh 11 [.ref n_1, .ref n_2, .ref n_3, .ref n_4, .int 0, .ref n_5, .ref n_6, .int 0, .null, .int 0, .int 0, .int 0, .int 0, .null, .int 0, .null, .null, .null, .null, .null, .null, .int 0, .int 0, .int 0], cin g n_1 51 (fun _ => 0), cin g n_2 51 (fun _ => 0), cin g n_3 51 (fun _ => 0), cin g n_4 51 (fun _ => 0), cin g n_5 8 (fun _ => 0), cin g n_6 200 (fun _ => 0), cch g n_7 120 f2]) (fun f2 => rfl) (fun lf_103 hL H locs hw => ?_)
  refine lv_dup hx hb dX11_init_628 rfl ?_
  refine lv_bipush (v := 96) hx hb dX11_init_629 (by decide) ?_
  refine lv_bipush (v := 97) hx hb dX11_init_631 (by decide) ?_
  refine rcL hf hk hw 7 rfl (k := 96) hL (vp_in_nI (n := 96) (by omega) (by omega)) rfl rfl dX11_init_633 (W' := fun f2 => [cob oh 11 [.ref n_1, .ref n_2, .ref n_3, .ref n_4, .int 0, .ref n_5, .ref n_6, .int 0, .null, .int 0, .int 0, .int 0, .int 0, .null, .int 0, .null, .null, .null, .null, .null, .null, .int 0, .int 0, .int 0], cin g n_1 51 (fun _ => 0), cin g n_2 51 (fun _ => 0), cin g n_3 51 (fun _ => 0), cin g n_4 51 (fun _ => 0), cin g n_5 8 (fun _ => 0), cin g n_6 200 (fun _ => 0), cch g n_7 120 f2]) (fun f2 => rfl) (fun lf_104 hL H locs hw => ?_)
  refine lv_dup hx hb dX11_init_634 rfl ?_
  refine lv_bipush (v := 97) hx hb dX11_init_635 (by decide) ?_
  refine lv_bipush (v := 116) hx hb dX11_init_637 (by decide) ?_
  refine rcL hf hk hw 7 rfl (k := 97) hL (vp_in_nI (n := 97) (by omega) (by omega)) rfl rfl dX11_init_639 (W' := fun f2 => [cob oh 11 [.ref n_1, .ref n_2, .ref n_3, .ref n_4, .int 0, .ref n_5, .ref n_6, .int 0, .null, .int 0, .int 0, .int 0, .int 0, .null, .int 0, .null, .null, .null, .null, .null, .null, .int 0, .int 0, .int 0], cin g n_1 51 (fun _ => 0), cin g n_2 51 (fun _ => 0), cin g n_3 51 (fun _ => 0), cin g n_4 51 (fun _ => 0), cin g n_5 8 (fun _ => 0), cin g n_6 200 (fun _ => 0), cch g n_7 120 f2]) (fun f2 => rfl) (fun lf_105 hL H locs hw => ?_)
  refine lv_dup hx hb dX11_init_640 rfl ?_
  refine lv_bipush (v := 98) hx hb dX11_init_641 (by decide) ?_
  refine lv_bipush (v := 32) hx hb dX11_init_643 (by decide) ?_
  refine rcL hf hk hw 7 rfl (k := 98) hL (vp_in_nI (n := 98) (by omega) (by omega)) rfl rfl dX11_init_645 (W' := fun f2 => [cob oh 11 [.ref n_1, .ref n_2, .ref n_3, .ref n_4, .int 0, .ref n_5, .ref n_6, .int 0, .null, .int 0, .int 0, .int 0, .int 0, .null, .int 0, .null, .null, .null, .null, .null, .null, .int 0, .int 0, .int 0], cin g n_1 51 (fun _ => 0), cin g n_2 51 (fun _ => 0), cin g n_3 51 (fun _ => 0), cin g n_4 51 (fun _ => 0), cin g n_5 8 (fun _ => 0), cin g n_6 200 (fun _ => 0), cch g n_7 120 f2]) (fun f2 => rfl) (fun lf_106 hL H locs hw => ?_)
  refine lv_dup hx hb dX11_init_646 rfl ?_
  refine lv_bipush (v := 99) hx hb dX11_init_647 (by decide) ?_
  refine lv_bipush (v := 32) hx hb dX11_init_649 (by decide) ?_
  refine rcL hf hk hw 7 rfl (k := 99) hL (vp_in_nI (n := 99) (by omega) (by omega)) rfl rfl dX11_init_651 (W' := fun f2 => [cob oh 11 [.ref n_1, .ref n_2, .ref n_3, .ref n_4, .int 0, .ref n_5, .ref n_6, .int 0, .null, .int 0, .int 0, .int 0, .int 0, .null, .int 0, .null, .null, .null, .null, .null, .null, .int 0, .int 0, .int 0], cin g n_1 51 (fun _ => 0), cin g n_2 51 (fun _ => 0), cin g n_3 51 (fun _ => 0), cin g n_4 51 (fun _ => 0), cin g n_5 8 (fun _ => 0), cin g n_6 200 (fun _ => 0), cch g n_7 120 f2]) (fun f2 => rfl) (fun lf_107 hL H locs hw => ?_)
  refine lv_dup hx hb dX11_init_652 rfl ?_
  refine lv_bipush (v := 100) hx hb dX11_init_653 (by decide) ?_
  refine lv_bipush (v := 32) hx hb dX11_init_655 (by decide) ?_
  refine rcL hf hk hw 7 rfl (k := 100) hL (vp_in_nI (n := 100) (by omega) (by omega)) rfl rfl dX11_init_657 (W' := fun f2 => [cob oh 11 [.ref n_1, .ref n_2, .ref n_3, .ref n_4, .int 0, .ref n_5, .ref n_6, .int 0, .null, .int 0, .int 0, .int 0, .int 0, .null, .int 0, .null, .null, .null, .null, .null, .null, .int 0, .int 0, .int 0], cin g n_1 51 (fun _ => 0), cin g n_2 51 (fun _ => 0), cin g n_3 51 (fun _ => 0), cin g n_4 51 (fun _ => 0), cin g n_5 8 (fun _ => 0), cin g n_6 200 (fun _ => 0), cch g n_7 120 f2]) (fun f2 => rfl) (fun lf_108 hL H locs hw => ?_)
  refine lv_dup hx hb dX11_init_658 rfl ?_
  refine lv_bipush (v := 101) hx hb dX11_init_659 (by decide) ?_
  refine lv_bipush (v := 32) hx hb dX11_init_661 (by decide) ?_
  refine rcL hf hk hw 7 rfl (k := 101) hL (vp_in_nI (n := 101) (by omega) (by omega)) rfl rfl dX11_init_663 (W' := fun f2 => [cob oh 11 [.ref n_1, .ref n_2, .ref n_3, .ref n_4, .int 0, .ref n_5, .ref n_6, .int 0, .null, .int 0, .int 0, .int 0, .int 0, .null, .int 0, .null, .null, .null, .null, .null, .null, .int 0, .int 0, .int 0], cin g n_1 51 (fun _ => 0), cin g n_2 51 (fun _ => 0), cin g n_3 51 (fun _ => 0), cin g n_4 51 (fun _ => 0), cin g n_5 8 (fun _ => 0), cin g n_6 200 (fun _ => 0), cch g n_7 120 f2]) (fun f2 => rfl) (fun lf_109 hL H locs hw => ?_)
  refine lv_dup hx hb dX11_init_664 rfl ?_
  refine lv_bipush (v := 102) hx hb dX11_init_665 (by decide) ?_
  refine lv_bipush (v := 32) hx hb dX11_init_667 (by decide) ?_
  refine rcL hf hk hw 7 rfl (k := 102) hL (vp_in_nI (n := 102) (by omega) (by omega)) rfl rfl dX11_init_669 (W' := fun f2 => [cob oh 11 [.ref n_1, .ref n_2, .ref n_3, .ref n_4, .int 0, .ref n_5, .ref n_6, .int 0, .null, .int 0, .int 0, .int 0, .int 0, .null, .int 0, .null, .null, .null, .null, .null, .null, .int 0, .int 0, .int 0], cin g n_1 51 (fun _ => 0), cin g n_2 51 (fun _ => 0), cin g n_3 51 (fun _ => 0), cin g n_4 51 (fun _ => 0), cin g n_5 8 (fun _ => 0), cin g n_6 200 (fun _ => 0), cch g n_7 120 f2]) (fun f2 => rfl) (fun lf_110 hL H locs hw => ?_)
  refine lv_dup hx hb dX11_init_670 rfl ?_
  refine lv_bipush (v := 103) hx hb dX11_init_671 (by decide) ?_
  refine lv_bipush (v := 32) hx hb dX11_init_673 (by decide) ?_
  refine rcL hf hk hw 7 rfl (k := 103) hL (vp_in_nI (n := 103) (by omega) (by omega)) rfl rfl dX11_init_675 (W' := fun f2 => [cob oh 11 [.ref n_1, .ref n_2, .ref n_3, .ref n_4, .int 0, .ref n_5, .ref n_6, .int 0, .null, .int 0, .int 0, .int 0, .int 0, .null, .int 0, .null, .null, .null, .null, .null, .null, .int 0, .int 0, .int 0], cin g n_1 51 (fun _ => 0), cin g n_2 51 (fun _ => 0), cin g n_3 51 (fun _ => 0), cin g n_4 51 (fun _ => 0), cin g n_5 8 (fun _ => 0), cin g n_6 200 (fun _ => 0), cch g n_7 120 f2]) (fun f2 => rfl) (fun lf_111 hL H locs hw => ?_)
  refine lv_dup hx hb dX11_init_676 rfl ?_
  refine lv_bipush (v := 104) hx hb dX11_init_677 (by decide) ?_
  refine lv_bipush (v := 105) hx hb dX11_init_679 (by decide) ?_
  refine rcL hf hk hw 7 rfl (k := 104) hL (vp_in_nI (n := 104) (by omega) (by omega)) rfl rfl dX11_init_681 (W' := fun f2 => [cob oh 11 [.ref n_1, .ref n_2, .ref n_3, .ref n_4, .int 0, .ref n_5, .ref n_6, .int 0, .null, .int 0, .int 0, .int 0, .int 0, .null, .int 0, .null, .null, .null, .null, .null, .null, .int 0, .int 0, .int 0], cin g n_1 51 (fun _ => 0), cin g n_2 51 (fun _ => 0), cin g n_3 51 (fun _ => 0), cin g n_4 51 (fun _ => 0), cin g n_5 8 (fun _ => 0), cin g n_6 200 (fun _ => 0), cch g n_7 120 f2]) (fun f2 => rfl) (fun lf_112 hL H locs hw => ?_)
  refine lv_dup hx hb dX11_init_682 rfl ?_
  refine lv_bipush (v := 105) hx hb dX11_init_683 (by decide) ?_
  refine lv_bipush (v := 115) hx hb dX11_init_685 (by decide) ?_
  refine rcL hf hk hw 7 rfl (k := 105) hL (vp_in_nI (n := 105) (by omega) (by omega)) rfl rfl dX11_init_687 (W' := fun f2 => [cob oh 11 [.ref n_1, .ref n_2, .ref n_3, .ref n_4, .int 0, .ref n_5, .ref n_6, .int 0, .null, .int 0, .int 0, .int 0, .int 0, .null, .int 0, .null, .null, .null, .null, .null, .null, .int 0, .int 0, .int 0], cin g n_1 51 (fun _ => 0), cin g n_2 51 (fun _ => 0), cin g n_3 51 (fun _ => 0), cin g n_4 51 (fun _ => 0), cin g n_5 8 (fun _ => 0), cin g n_6 200 (fun _ => 0), cch g n_7 120 f2]) (fun f2 => rfl) (fun lf_113 hL H locs hw => ?_)
  refine lv_dup hx hb dX11_init_688 rfl ?_
  refine lv_bipush (v := 106) hx hb dX11_init_689 (by decide) ?_
  refine lv_bipush (v := 32) hx hb dX11_init_691 (by decide) ?_
  refine rcL hf hk hw 7 rfl (k := 106) hL (vp_in_nI (n := 106) (by omega) (by omega)) rfl rfl dX11_init_693 (W' := fun f2 => [cob oh 11 [.ref n_1, .ref n_2, .ref n_3, .ref n_4, .int 0, .ref n_5, .ref n_6, .int 0, .null, .int 0, .int 0, .int 0, .int 0, .null, .int 0, .null, .null, .null, .null, .null, .null, .int 0, .int 0, .int 0], cin g n_1 51 (fun _ => 0), cin g n_2 51 (fun _ => 0), cin g n_3 51 (fun _ => 0), cin g n_4 51 (fun _ => 0), cin g n_5 8 (fun _ => 0), cin g n_6 200 (fun _ => 0), cch g n_7 120 f2]) (fun f2 => rfl) (fun lf_114 hL H locs hw => ?_)
  refine lv_dup hx hb dX11_init_694 rfl ?_
  refine lv_bipush (v := 107) hx hb dX11_init_695 (by decide) ?_
  refine lv_bipush (v := 32) hx hb dX11_init_697 (by decide) ?_
  refine rcL hf hk hw 7 rfl (k := 107) hL (vp_in_nI (n := 107) (by omega) (by omega)) rfl rfl dX11_init_699 (W' := fun f2 => [cob oh 11 [.ref n_1, .ref n_2, .ref n_3, .ref n_4, .int 0, .ref n_5, .ref n_6, .int 0, .null, .int 0, .int 0, .int 0, .int 0, .null, .int 0, .null, .null, .null, .null, .null, .null, .int 0, .int 0, .int 0], cin g n_1 51 (fun _ => 0), cin g n_2 51 (fun _ => 0), cin g n_3 51 (fun _ => 0), cin g n_4 51 (fun _ => 0), cin g n_5 8 (fun _ => 0), cin g n_6 200 (fun _ => 0), cch g n_7 120 f2]) (fun f2 => rfl) (fun lf_115 hL H locs hw => ?_)
  refine lv_dup hx hb dX11_init_700 rfl ?_
  refine lv_bipush (v := 108) hx hb dX11_init_701 (by decide) ?_
  refine lv_bipush (v := 32) hx hb dX11_init_703 (by decide) ?_
  refine rcL hf hk hw 7 rfl (k := 108) hL (vp_in_nI (n := 108) (by omega) (by omega)) rfl rfl dX11_init_705 (W' := fun f2 => [cob oh 11 [.ref n_1, .ref n_2, .ref n_3, .ref n_4, .int 0, .ref n_5, .ref n_6, .int 0, .null, .int 0, .int 0, .int 0, .int 0, .null, .int 0, .null, .null, .null, .null, .null, .null, .int 0, .int 0, .int 0], cin g n_1 51 (fun _ => 0), cin g n_2 51 (fun _ => 0), cin g n_3 51 (fun _ => 0), cin g n_4 51 (fun _ => 0), cin g n_5 8 (fun _ => 0), cin g n_6 200 (fun _ => 0), cch g n_7 120 f2]) (fun f2 => rfl) (fun lf_116 hL H locs hw => ?_)
  refine lv_dup hx hb dX11_init_706 rfl ?_
  refine lv_bipush (v := 109) hx hb dX11_init_707 (by decide) ?_
  refine lv_bipush (v := 32) hx hb dX11_init_709 (by decide) ?_
  refine rcL hf hk hw 7 rfl (k := 109) hL (vp_in_nI (n := 109) (by omega) (by omega)) rfl rfl dX11_init_711 (W' := fun f2 => [cob oh 11 [.ref n_1, .ref n_2, .ref n_3, .ref n_4, .int 0, .ref n_5, .ref n_6, .int 0, .null, .int 0, .int 0, .int 0, .int 0, .null, .int 0, .null, .null, .null, .null, .null, .null, .int 0, .int 0, .int 0], cin g n_1 51 (fun _ => 0), cin g n_2 51 (fun _ => 0), cin g n_3 51 (fun _ => 0), cin g n_4 51 (fun _ => 0), cin g n_5 8 (fun _ => 0), cin g n_6 200 (fun _ => 0), cch g n_7 120 f2]) (fun f2 => rfl) (fun lf_117 hL H locs hw => ?_)
  refine lv_dup hx hb dX11_init_712 rfl ?_
  refine lv_bipush (v := 110) hx hb dX11_init_713 (by decide) ?_
  refine lv_bipush (v := 32) hx hb dX11_init_715 (by decide) ?_
  refine rcL hf hk hw 7 rfl (k := 110) hL (vp_in_nI (n := 110) (by omega) (by omega)) rfl rfl dX11_init_717 (W' := fun f2 => [cob oh 11 [.ref n_1, .ref n_2, .ref n_3, .ref n_4, .int 0, .ref n_5, .ref n_6, .int 0, .null, .int 0, .int 0, .int 0, .int 0, .null, .int 0, .null, .null, .null, .null, .null, .null, .int 0, .int 0, .int 0], cin g n_1 51 (fun _ => 0), cin g n_2 51 (fun _ => 0), cin g n_3 51 (fun _ => 0), cin g n_4 51 (fun _ => 0), cin g n_5 8 (fun _ => 0), cin g n_6 200 (fun _ => 0), cch g n_7 120 f2]) (fun f2 => rfl) (fun lf_118 hL H locs hw => ?_)
  refine lv_dup hx hb dX11_init_718 rfl ?_
  refine lv_bipush (v := 111) hx hb dX11_init_719 (by decide) ?_
  refine lv_bipush (v := 32) hx hb dX11_init_721 (by decide) ?_
  refine rcL hf hk hw 7 rfl (k := 111) hL (vp_in_nI (n := 111) (by omega) (by omega)) rfl rfl dX11_init_723 (W' := fun f2 => [cob oh 11 [.ref n_1, .ref n_2, .ref n_3, .ref n_4, .int 0, .ref n_5, .ref n_6, .int 0, .null, .int 0, .int 0, .int 0, .int 0, .null, .int 0, .null, .null, .null, .null, .null, .null, .int 0, .int 0, .int 0], cin g n_1 51 (fun _ => 0), cin g n_2 51 (fun _ => 0), cin g n_3 51 (fun _ => 0), cin g n_4 51 (fun _ => 0), cin g n_5 8 (fun _ => 0), cin g n_6 200 (fun _ => 0), cch g n_7 120 f2]) (fun f2 => rfl) (fun lf_119 hL H locs hw => ?_)
  refine lv_dup hx hb dX11_init_724 rfl ?_
  refine lv_bipush (v := 112) hx hb dX11_init_725 (by decide) ?_
  refine lv_bipush (v := 102) hx hb dX11_init_727 (by decide) ?_
  refine rcL hf hk hw 7 rfl (k := 112) hL (vp_in_nI (n := 112) (by omega) (by omega)) rfl rfl dX11_init_729 (W' := fun f2 => [cob oh 11 [.ref n_1, .ref n_2, .ref n_3, .ref n_4, .int 0, .ref n_5, .ref n_6, .int 0, .null, .int 0, .int 0, .int 0, .int 0, .null, .int 0, .null, .null, .null, .null, .null, .null, .int 0, .int 0, .int 0], cin g n_1 51 (fun _ => 0), cin g n_2 51 (fun _ => 0), cin g n_3 51 (fun _ => 0), cin g n_4 51 (fun _ => 0), cin g n_5 8 (fun _ => 0), cin g n_6 200 (fun _ => 0), cch g n_7 120 f2]) (fun f2 => rfl) (fun lf_120 hL H locs hw => ?_)
  refine lv_dup hx hb dX11_init_730 rfl ?_
  refine lv_bipush (v := 113) hx hb dX11_init_731 (by decide) ?_
  refine lv_bipush (v := 97) hx hb dX11_init_733 (by decide) ?_
  refine rcL hf hk hw 7 rfl (k := 113) hL (vp_in_nI (n := 113) (by omega) (by omega)) rfl rfl dX11_init_735 (W' := fun f2 => [cob oh 11 [.ref n_1, .ref n_2, .ref n_3, .ref n_4, .int 0, .ref n_5, .ref n_6, .int 0, .null, .int 0, .int 0, .int 0, .int 0, .null, .int 0, .null, .null, .null, .null, .null, .null, .int 0, .int 0, .int 0], cin g n_1 51 (fun _ => 0), cin g n_2 51 (fun _ => 0), cin g n_3 51 (fun _ => 0), cin g n_4 51 (fun _ => 0), cin g n_5 8 (fun _ => 0), cin g n_6 200 (fun _ => 0), cch g n_7 120 f2]) (fun f2 => rfl) (fun lf_121 hL H locs hw => ?_)
  refine lv_dup hx hb dX11_init_736 rfl ?_
  refine lv_bipush (v := 114) hx hb dX11_init_737 (by decide) ?_
  refine lv_bipush (v := 105) hx hb dX11_init_739 (by decide) ?_
  refine rcL hf hk hw 7 rfl (k := 114) hL (vp_in_nI (n := 114) (by omega) (by omega)) rfl rfl dX11_init_741 (W' := fun f2 => [cob oh 11 [.ref n_1, .ref n_2, .ref n_3, .ref n_4, .int 0, .ref n_5, .ref n_6, .int 0, .null, .int 0, .int 0, .int 0, .int 0, .null, .int 0, .null, .null, .null, .null, .null, .null, .int 0, .int 0, .int 0], cin g n_1 51 (fun _ => 0), cin g n_2 51 (fun _ => 0), cin g n_3 51 (fun _ => 0), cin g n_4 51 (fun _ => 0), cin g n_5 8 (fun _ => 0), cin g n_6 200 (fun _ => 0), cch g n_7 120 f2]) (fun f2 => rfl) (fun lf_122 hL H locs hw => ?_)
  refine lv_dup hx hb dX11_init_742 rfl ?_
  refine lv_bipush (v := 115) hx hb dX11_init_743 (by decide) ?_
  refine lv_bipush (v := 116) hx hb dX11_init_745 (by decide) ?_
  refine rcL hf hk hw 7 rfl (k := 115) hL (vp_in_nI (n := 115) (by omega) (by omega)) rfl rfl dX11_init_747 (W' := fun f2 => [cob oh 11 [.ref n_1, .ref n_2, .ref n_3, .ref n_4, .int 0, .ref n_5, .ref n_6, .int 0, .null, .int 0, .int 0, .int 0, .int 0, .null, .int 0, .null, .null, .null, .null, .null, .null, .int 0, .int 0, .int 0], cin g n_1 51 (fun _ => 0), cin g n_2 51 (fun _ => 0), cin g n_3 51 (fun _ => 0), cin g n_4 51 (fun _ => 0), cin g n_5 8 (fun _ => 0), cin g n_6 200 (fun _ => 0), cch g n_7 120 f2]) (fun f2 => rfl) (fun lf_123 hL H locs hw => ?_)
  refine lv_dup hx hb dX11_init_748 rfl ?_
  refine lv_bipush (v := 116) hx hb dX11_init_749 (by decide) ?_
  refine lv_bipush (v := 104) hx hb dX11_init_751 (by decide) ?_
  refine rcL hf hk hw 7 rfl (k := 116) hL (vp_in_nI (n := 116) (by omega) (by omega)) rfl rfl dX11_init_753 (W' := fun f2 => [cob oh 11 [.ref n_1, .ref n_2, .ref n_3, .ref n_4, .int 0, .ref n_5, .ref n_6, .int 0, .null, .int 0, .int 0, .int 0, .int 0, .null, .int 0, .null, .null, .null, .null, .null, .null, .int 0, .int 0, .int 0], cin g n_1 51 (fun _ => 0), cin g n_2 51 (fun _ => 0), cin g n_3 51 (fun _ => 0), cin g n_4 51 (fun _ => 0), cin g n_5 8 (fun _ => 0), cin g n_6 200 (fun _ => 0), cch g n_7 120 f2]) (fun f2 => rfl) (fun lf_124 hL H locs hw => ?_)
  refine lv_dup hx hb dX11_init_754 rfl ?_
  refine lv_bipush (v := 117) hx hb dX11_init_755 (by decide) ?_
  refine lv_bipush (v := 32) hx hb dX11_init_757 (by decide) ?_
  refine rcL hf hk hw 7 rfl (k := 117) hL (vp_in_nI (n := 117) (by omega) (by omega)) rfl rfl dX11_init_759 (W' := fun f2 => [cob oh 11 [.ref n_1, .ref n_2, .ref n_3, .ref n_4, .int 0, .ref n_5, .ref n_6, .int 0, .null, .int 0, .int 0, .int 0, .int 0, .null, .int 0, .null, .null, .null, .null, .null, .null, .int 0, .int 0, .int 0], cin g n_1 51 (fun _ => 0), cin g n_2 51 (fun _ => 0), cin g n_3 51 (fun _ => 0), cin g n_4 51 (fun _ => 0), cin g n_5 8 (fun _ => 0), cin g n_6 200 (fun _ => 0), cch g n_7 120 f2]) (fun f2 => rfl) (fun lf_125 hL H locs hw => ?_)
  refine lv_dup hx hb dX11_init_760 rfl ?_
  refine lv_bipush (v := 118) hx hb dX11_init_761 (by decide) ?_
  refine lv_bipush (v := 32) hx hb dX11_init_763 (by decide) ?_
  refine rcL hf hk hw 7 rfl (k := 118) hL (vp_in_nI (n := 118) (by omega) (by omega)) rfl rfl dX11_init_765 (W' := fun f2 => [cob oh 11 [.ref n_1, .ref n_2, .ref n_3, .ref n_4, .int 0, .ref n_5, .ref n_6, .int 0, .null, .int 0, .int 0, .int 0, .int 0, .null, .int 0, .null, .null, .null, .null, .null, .null, .int 0, .int 0, .int 0], cin g n_1 51 (fun _ => 0), cin g n_2 51 (fun _ => 0), cin g n_3 51 (fun _ => 0), cin g n_4 51 (fun _ => 0), cin g n_5 8 (fun _ => 0), cin g n_6 200 (fun _ => 0), cch g n_7 120 f2]) (fun f2 => rfl) (fun lf_126 hL H locs hw => ?_)
  refine lv_dup hx hb dX11_init_766 rfl ?_
  refine lv_bipush (v := 119) hx hb dX11_init_767 (by decide) ?_
  refine lv_bipush (v := 32) hx hb dX11_init_769 (by decide) ?_
  refine rcL hf hk hw 7 rfl (k := 119) hL (vp_in_nI (n := 119) (by omega) (by omega)) rfl rfl dX11_init_771 (W' := fun f2 => [cob oh 11 [.ref n_1, .ref n_2, .ref n_3, .ref n_4, .int 0, .ref n_5, .ref n_6, .int 0, .null, .int 0, .int 0, .int 0, .int 0, .null, .int 0, .null, .null, .null, .null, .null, .null, .int 0, .int 0, .int 0], cin g n_1 51 (fun _ => 0), cin g n_2 51 (fun _ => 0), cin g n_3 51 (fun _ => 0), cin g n_4 51 (fun _ => 0), cin g n_5 8 (fun _ => 0), cin g n_6 200 (fun _ => 0), cch g n_7 120 f2]) (fun f2 => rfl) (fun lf_127 hL H locs hw => ?_)
  refine rpF hf hk hw hnm hinX11 tyX11 tyX11_ok nmX11 0 rfl rfl 8 (by decide) w_11 rfl rfl rfl rfl (Nat.le_of_ble_eq_true rfl) dX11_init_772 (W' := [cob oh 11 [.ref n_1, .ref n_2, .ref n_3, .ref n_4, .int 0, .ref n_5, .ref n_6, .int 0, .ref n_7, .int 0, .int 0, .int 0, .int 0, .null, .int 0, .null, .null, .null, .null, .null, .null, .int 0, .int 0, .int 0], cin g n_1 51 (fun _ => 0), cin g n_2 51 (fun _ => 0), cin g n_3 51 (fun _ => 0), cin g n_4 51 (fun _ => 0), cin g n_5 8 (fun _ => 0), cin g n_6 200 (fun _ => 0), cch g n_7 120 lf_127]) rfl (fun H locs hw => ?_)
  refine lv_aload_n hx hb dX11_init_775 rfl (lv_at hl 0 rfl) ?_
  refine lv_bipush (v := 30) hx hb dX11_init_776 (by decide) ?_
  refine rna (atype := .int) hf hk hw hA 0 (N := 30) w_3 rfl rfl (fun _ => rfl) (by decide) (rfl) (Nat.le_of_ble_eq_true rfl) (Nat.le_of_ble_eq_true rfl) (Nat.le_of_ble_eq_true rfl) dX11_init_778 (W' := fun q => [cob oh 11 [.ref n_1, .ref n_2, .ref n_3, .ref n_4, .int 0, .ref n_5, .ref n_6, .int 0, .ref n_7, .int 0, .int 0, .int 0, .int 0, .null, .int 0, .null, .null, .null, .null, .null, .null, .int 0, .int 0, .int 0], cin g n_1 51 (fun _ => 0), cin g n_2 51 (fun _ => 0), cin g n_3 51 (fun _ => 0), cin g n_4 51 (fun _ => 0), cin g n_5 8 (fun _ => 0), cin g n_6 200 (fun _ => 0), cch g n_7 120 lf_127, cin g q 30 (fun _ => 0)]) (fun q => rfl) (fun n_128 H hw => ?_)
  refine rpF hf hk hw hnm hinX11 tyX11 tyX11_ok nmX11 0 rfl rfl 13 (by decide) w_12 rfl rfl rfl rfl (Nat.le_of_ble_eq_true rfl) dX11_init_780 (W' := [cob oh 11 [.ref n_1, .ref n_2, .ref n_3, .ref n_4, .int 0, .ref n_5, .ref n_6, .int 0, .ref n_7, .int 0, .int 0, .int 0, .int 0, .ref n_128, .int 0, .null, .null, .null, .null, .null, .null, .int 0, .int 0, .int 0], cin g n_1 51 (fun _ => 0), cin g n_2 51 (fun _ => 0), cin g n_3 51 (fun _ => 0), cin g n_4 51 (fun _ => 0), cin g n_5 8 (fun _ => 0), cin g n_6 200 (fun _ => 0), cch g n_7 120 lf_127, cin g n_128 30 (fun _ => 0)]) rfl (fun H locs hw => ?_)
  refine lv_aload_n hx hb dX11_init_783 rfl (lv_at hl 0 rfl) ?_
  refine lv_iconst (v := 4) hx hb dX11_init_784 (by decide) ?_
  refine rna (atype := .int) hf hk hw hA 0 (N := 4) w_3 rfl rfl (fun _ => rfl) (by decide) (rfl) (Nat.le_of_ble_eq_true rfl) (Nat.le_of_ble_eq_true rfl) (Nat.le_of_ble_eq_true rfl) dX11_init_785 (W' := fun q => [cob oh 11 [.ref n_1, .ref n_2, .ref n_3, .ref n_4, .int 0, .ref n_5, .ref n_6, .int 0, .ref n_7, .int 0, .int 0, .int 0, .int 0, .ref n_128, .int 0, .null, .null, .null, .null, .null, .null, .int 0, .int 0, .int 0], cin g n_1 51 (fun _ => 0), cin g n_2 51 (fun _ => 0), cin g n_3 51 (fun _ => 0), cin g n_4 51 (fun _ => 0), cin g n_5 8 (fun _ => 0), cin g n_6 200 (fun _ => 0), cch g n_7 120 lf_127, cin g n_128 30 (fun _ => 0), cin g q 4 (fun _ => 0)]) (fun q => rfl) (fun n_129 H hw => ?_)
  refine lv_dup hx hb dX11_init_787 rfl ?_
  refine lv_iconst (v := 0) hx hb dX11_init_788 (by decide) ?_
  refine lv_iconst (v := (-1)) hx hb dX11_init_789 (by decide) ?_
  refine rsj hf hk hw 9 rfl (j := 0) (vp_in_nI (n := 0) (by omega) (by omega)) (rfl) dX11_init_790 (W' := [cob oh 11 [.ref n_1, .ref n_2, .ref n_3, .ref n_4, .int 0, .ref n_5, .ref n_6, .int 0, .ref n_7, .int 0, .int 0, .int 0, .int 0, .ref n_128, .int 0, .null, .null, .null, .null, .null, .null, .int 0, .int 0, .int 0], cin g n_1 51 (fun _ => 0), cin g n_2 51 (fun _ => 0), cin g n_3 51 (fun _ => 0), cin g n_4 51 (fun _ => 0), cin g n_5 8 (fun _ => 0), cin g n_6 200 (fun _ => 0), cch g n_7 120 lf_127, cin g n_128 30 (fun _ => 0), cin g n_129 4 (upd (fun _ => 0) 0 (-1))]) rfl (fun H locs hw => ?_)
  refine lv_dup hx hb dX11_init_791 rfl ?_
  refine lv_iconst (v := 1) hx hb dX11_init_792 (by decide) ?_
  refine lv_iconst (v := (-1)) hx hb dX11_init_793 (by decide) ?_
  refine rsj hf hk hw 9 rfl (j := 1) (vp_in_nI (n := 1) (by omega) (by omega)) (rfl) dX11_init_794 (W' := [cob oh 11 [.ref n_1, .ref n_2, .ref n_3, .ref n_4, .int 0, .ref n_5, .ref n_6, .int 0, .ref n_7, .int 0, .int 0, .int 0, .int 0, .ref n_128, .int 0, .null, .null, .null, .null, .null, .null, .int 0, .int 0, .int 0], cin g n_1 51 (fun _ => 0), cin g n_2 51 (fun _ => 0), cin g n_3 51 (fun _ => 0), cin g n_4 51 (fun _ => 0), cin g n_5 8 (fun _ => 0), cin g n_6 200 (fun _ => 0), cch g n_7 120 lf_127, cin g n_128 30 (fun _ => 0), cin g n_129 4 (upd (upd (fun _ => 0) 0 (-1)) 1 (-1))]) rfl (fun H locs hw => ?_)
  refine lv_dup hx hb dX11_init_795 rfl ?_
  refine lv_iconst (v := 2) hx hb dX11_init_796 (by decide) ?_
  refine lv_iconst (v := (-1)) hx hb dX11_init_797 (by decide) ?_
  refine rsj hf hk hw 9 rfl (j := 2) (vp_in_nI (n := 2) (by omega) (by omega)) (rfl) dX11_init_798 (W' := [cob oh 11 [.ref n_1, .ref n_2, .ref n_3, .ref n_4, .int 0, .ref n_5, .ref n_6, .int 0, .ref n_7, .int 0, .int 0, .int 0, .int 0, .ref n_128, .int 0, .null, .null, .null, .null, .null, .null, .int 0, .int 0, .int 0], cin g n_1 51 (fun _ => 0), cin g n_2 51 (fun _ => 0), cin g n_3 51 (fun _ => 0), cin g n_4 51 (fun _ => 0), cin g n_5 8 (fun _ => 0), cin g n_6 200 (fun _ => 0), cch g n_7 120 lf_127, cin g n_128 30 (fun _ => 0), cin g n_129 4 (upd (upd (upd (fun _ => 0) 0 (-1)) 1 (-1)) 2 (-1))]) rfl (fun H locs hw => ?_)
  refine lv_dup hx hb dX11_init_799 rfl ?_
  refine lv_iconst (v := 3) hx hb dX11_init_800 (by decide) ?_
  refine lv_iconst (v := (-1)) hx hb dX11_init_801 (by decide) ?_
  refine rsj hf hk hw 9 rfl (j := 3) (vp_in_nI (n := 3) (by omega) (by omega)) (rfl) dX11_init_802 (W' := [cob oh 11 [.ref n_1, .ref n_2, .ref n_3, .ref n_4, .int 0, .ref n_5, .ref n_6, .int 0, .ref n_7, .int 0, .int 0, .int 0, .int 0, .ref n_128, .int 0, .null, .null, .null, .null, .null, .null, .int 0, .int 0, .int 0], cin g n_1 51 (fun _ => 0), cin g n_2 51 (fun _ => 0), cin g n_3 51 (fun _ => 0), cin g n_4 51 (fun _ => 0), cin g n_5 8 (fun _ => 0), cin g n_6 200 (fun _ => 0), cch g n_7 120 lf_127, cin g n_128 30 (fun _ => 0), cin g n_129 4 (upd (upd (upd (upd (fun _ => 0) 0 (-1)) 1 (-1)) 2 (-1)) 3 (-1))]) rfl (fun H locs hw => ?_)
  refine rpF hf hk hw hnm hinX11 tyX11 tyX11_ok nmX11 0 rfl rfl 15 (by decide) w_13 rfl rfl rfl rfl (Nat.le_of_ble_eq_true rfl) dX11_init_803 (W' := [cob oh 11 [.ref n_1, .ref n_2, .ref n_3, .ref n_4, .int 0, .ref n_5, .ref n_6, .int 0, .ref n_7, .int 0, .int 0, .int 0, .int 0, .ref n_128, .int 0, .ref n_129, .null, .null, .null, .null, .null, .int 0, .int 0, .int 0], cin g n_1 51 (fun _ => 0), cin g n_2 51 (fun _ => 0), cin g n_3 51 (fun _ => 0), cin g n_4 51 (fun _ => 0), cin g n_5 8 (fun _ => 0), cin g n_6 200 (fun _ => 0), cch g n_7 120 lf_127, cin g n_128 30 (fun _ => 0), cin g n_129 4 (upd (upd (upd (upd (fun _ => 0) 0 (-1)) 1 (-1)) 2 (-1)) 3 (-1))]) rfl (fun H locs hw => ?_)
  refine lv_aload_n hx hb dX11_init_806 rfl (lv_at hl 0 rfl) ?_
  refine lv_iconst (v := 4) hx hb dX11_init_807 (by decide) ?_
  refine rna (atype := .int) hf hk hw hA 0 (N := 4) w_3 rfl rfl (fun _ => rfl) (by decide) (rfl) (Nat.le_of_ble_eq_true rfl) (Nat.le_of_ble_eq_true rfl) (Nat.le_of_ble_eq_true rfl) dX11_init_808 (W' := fun q => [cob oh 11 [.ref n_1, .ref n_2, .ref n_3, .ref n_4, .int 0, .ref n_5, .ref n_6, .int 0, .ref n_7, .int 0, .int 0, .int 0, .int 0, .ref n_128, .int 0, .ref n_129, .null, .null, .null, .null, .null, .int 0, .int 0, .int 0], cin g n_1 51 (fun _ => 0), cin g n_2 51 (fun _ => 0), cin g n_3 51 (fun _ => 0), cin g n_4 51 (fun _ => 0), cin g n_5 8 (fun _ => 0), cin g n_6 200 (fun _ => 0), cch g n_7 120 lf_127, cin g n_128 30 (fun _ => 0), cin g n_129 4 (upd (upd (upd (upd (fun _ => 0) 0 (-1)) 1 (-1)) 2 (-1)) 3 (-1)), cin g q 4 (fun _ => 0)]) (fun q => rfl) (fun n_130 H hw => ?_)
  refine rpF hf hk hw hnm hinX11 tyX11 tyX11_ok nmX11 0 rfl rfl 16 (by decide) w_14 rfl rfl rfl rfl (Nat.le_of_ble_eq_true rfl) dX11_init_810 (W' := [cob oh 11 [.ref n_1, .ref n_2, .ref n_3, .ref n_4, .int 0, .ref n_5, .ref n_6, .int 0, .ref n_7, .int 0, .int 0, .int 0, .int 0, .ref n_128, .int 0, .ref n_129, .ref n_130, .null, .null, .null, .null, .int 0, .int 0, .int 0], cin g n_1 51 (fun _ => 0), cin g n_2 51 (fun _ => 0), cin g n_3 51 (fun _ => 0), cin g n_4 51 (fun _ => 0), cin g n_5 8 (fun _ => 0), cin g n_6 200 (fun _ => 0), cch g n_7 120 lf_127, cin g n_128 30 (fun _ => 0), cin g n_129 4 (upd (upd (upd (upd (fun _ => 0) 0 (-1)) 1 (-1)) 2 (-1)) 3 (-1)), cin g n_130 4 (fun _ => 0)]) rfl (fun H locs hw => ?_)
  refine lv_aload_n hx hb dX11_init_813 rfl (lv_at hl 0 rfl) ?_
  refine lv_sipush (v := 160) hx hb dX11_init_814 (by decide) ?_
  refine rna (atype := .int) hf hk hw hA 0 (N := 160) w_3 rfl rfl (fun _ => rfl) (by decide) (rfl) (Nat.le_of_ble_eq_true rfl) (Nat.le_of_ble_eq_true rfl) (Nat.le_of_ble_eq_true rfl) dX11_init_817 (W' := fun q => [cob oh 11 [.ref n_1, .ref n_2, .ref n_3, .ref n_4, .int 0, .ref n_5, .ref n_6, .int 0, .ref n_7, .int 0, .int 0, .int 0, .int 0, .ref n_128, .int 0, .ref n_129, .ref n_130, .null, .null, .null, .null, .int 0, .int 0, .int 0], cin g n_1 51 (fun _ => 0), cin g n_2 51 (fun _ => 0), cin g n_3 51 (fun _ => 0), cin g n_4 51 (fun _ => 0), cin g n_5 8 (fun _ => 0), cin g n_6 200 (fun _ => 0), cch g n_7 120 lf_127, cin g n_128 30 (fun _ => 0), cin g n_129 4 (upd (upd (upd (upd (fun _ => 0) 0 (-1)) 1 (-1)) 2 (-1)) 3 (-1)), cin g n_130 4 (fun _ => 0), cin g q 160 (fun _ => 0)]) (fun q => rfl) (fun n_131 H hw => ?_)
  refine rpF hf hk hw hnm hinX11 tyX11 tyX11_ok nmX11 0 rfl rfl 17 (by decide) w_15 rfl rfl rfl rfl (Nat.le_of_ble_eq_true rfl) dX11_init_819 (W' := [cob oh 11 [.ref n_1, .ref n_2, .ref n_3, .ref n_4, .int 0, .ref n_5, .ref n_6, .int 0, .ref n_7, .int 0, .int 0, .int 0, .int 0, .ref n_128, .int 0, .ref n_129, .ref n_130, .ref n_131, .null, .null, .null, .int 0, .int 0, .int 0], cin g n_1 51 (fun _ => 0), cin g n_2 51 (fun _ => 0), cin g n_3 51 (fun _ => 0), cin g n_4 51 (fun _ => 0), cin g n_5 8 (fun _ => 0), cin g n_6 200 (fun _ => 0), cch g n_7 120 lf_127, cin g n_128 30 (fun _ => 0), cin g n_129 4 (upd (upd (upd (upd (fun _ => 0) 0 (-1)) 1 (-1)) 2 (-1)) 3 (-1)), cin g n_130 4 (fun _ => 0), cin g n_131 160 (fun _ => 0)]) rfl (fun H locs hw => ?_)
  refine lv_aload_n hx hb dX11_init_822 rfl (lv_at hl 0 rfl) ?_
  refine lv_iconst (v := 4) hx hb dX11_init_823 (by decide) ?_
  refine rna (atype := .int) hf hk hw hA 0 (N := 4) w_3 rfl rfl (fun _ => rfl) (by decide) (rfl) (Nat.le_of_ble_eq_true rfl) (Nat.le_of_ble_eq_true rfl) (Nat.le_of_ble_eq_true rfl) dX11_init_824 (W' := fun q => [cob oh 11 [.ref n_1, .ref n_2, .ref n_3, .ref n_4, .int 0, .ref n_5, .ref n_6, .int 0, .ref n_7, .int 0, .int 0, .int 0, .int 0, .ref n_128, .int 0, .ref n_129, .ref n_130, .ref n_131, .null, .null, .null, .int 0, .int 0, .int 0], cin g n_1 51 (fun _ => 0), cin g n_2 51 (fun _ => 0), cin g n_3 51 (fun _ => 0), cin g n_4 51 (fun _ => 0), cin g n_5 8 (fun _ => 0), cin g n_6 200 (fun _ => 0), cch g n_7 120 lf_127, cin g n_128 30 (fun _ => 0), cin g n_129 4 (upd (upd (upd (upd (fun _ => 0) 0 (-1)) 1 (-1)) 2 (-1)) 3 (-1)), cin g n_130 4 (fun _ => 0), cin g n_131 160 (fun _ => 0), cin g q 4 (fun _ => 0)]) (fun q => rfl) (fun n_132 H hw => ?_)
  refine lv_dup hx hb dX11_init_826 rfl ?_
  refine lv_iconst (v := 0) hx hb dX11_init_827 (by decide) ?_
  refine lv_iconst (v := (-1)) hx hb dX11_init_828 (by decide) ?_
  refine rsj hf hk hw 12 rfl (j := 0) (vp_in_nI (n := 0) (by omega) (by omega)) (rfl) dX11_init_829 (W' := [cob oh 11 [.ref n_1, .ref n_2, .ref n_3, .ref n_4, .int 0, .ref n_5, .ref n_6, .int 0, .ref n_7, .int 0, .int 0, .int 0, .int 0, .ref n_128, .int 0, .ref n_129, .ref n_130, .ref n_131, .null, .null, .null, .int 0, .int 0, .int 0], cin g n_1 51 (fun _ => 0), cin g n_2 51 (fun _ => 0), cin g n_3 51 (fun _ => 0), cin g n_4 51 (fun _ => 0), cin g n_5 8 (fun _ => 0), cin g n_6 200 (fun _ => 0), cch g n_7 120 lf_127, cin g n_128 30 (fun _ => 0), cin g n_129 4 (upd (upd (upd (upd (fun _ => 0) 0 (-1)) 1 (-1)) 2 (-1)) 3 (-1)), cin g n_130 4 (fun _ => 0), cin g n_131 160 (fun _ => 0), cin g n_132 4 (upd (fun _ => 0) 0 (-1))]) rfl (fun H locs hw => ?_)
  refine lv_dup hx hb dX11_init_830 rfl ?_
  refine lv_iconst (v := 1) hx hb dX11_init_831 (by decide) ?_
  refine lv_iconst (v := (-1)) hx hb dX11_init_832 (by decide) ?_
  refine rsj hf hk hw 12 rfl (j := 1) (vp_in_nI (n := 1) (by omega) (by omega)) (rfl) dX11_init_833 (W' := [cob oh 11 [.ref n_1, .ref n_2, .ref n_3, .ref n_4, .int 0, .ref n_5, .ref n_6, .int 0, .ref n_7, .int 0, .int 0, .int 0, .int 0, .ref n_128, .int 0, .ref n_129, .ref n_130, .ref n_131, .null, .null, .null, .int 0, .int 0, .int 0], cin g n_1 51 (fun _ => 0), cin g n_2 51 (fun _ => 0), cin g n_3 51 (fun _ => 0), cin g n_4 51 (fun _ => 0), cin g n_5 8 (fun _ => 0), cin g n_6 200 (fun _ => 0), cch g n_7 120 lf_127, cin g n_128 30 (fun _ => 0), cin g n_129 4 (upd (upd (upd (upd (fun _ => 0) 0 (-1)) 1 (-1)) 2 (-1)) 3 (-1)), cin g n_130 4 (fun _ => 0), cin g n_131 160 (fun _ => 0), cin g n_132 4 (upd (upd (fun _ => 0) 0 (-1)) 1 (-1))]) rfl (fun H locs hw => ?_)
  refine lv_dup hx hb dX11_init_834 rfl ?_
  refine lv_iconst (v := 2) hx hb dX11_init_835 (by decide) ?_
  refine lv_iconst (v := (-1)) hx hb dX11_init_836 (by decide) ?_
  refine rsj hf hk hw 12 rfl (j := 2) (vp_in_nI (n := 2) (by omega) (by omega)) (rfl) dX11_init_837 (W' := [cob oh 11 [.ref n_1, .ref n_2, .ref n_3, .ref n_4, .int 0, .ref n_5, .ref n_6, .int 0, .ref n_7, .int 0, .int 0, .int 0, .int 0, .ref n_128, .int 0, .ref n_129, .ref n_130, .ref n_131, .null, .null, .null, .int 0, .int 0, .int 0], cin g n_1 51 (fun _ => 0), cin g n_2 51 (fun _ => 0), cin g n_3 51 (fun _ => 0), cin g n_4 51 (fun _ => 0), cin g n_5 8 (fun _ => 0), cin g n_6 200 (fun _ => 0), cch g n_7 120 lf_127, cin g n_128 30 (fun _ => 0), cin g n_129 4 (upd (upd (upd (upd (fun _ => 0) 0 (-1)) 1 (-1)) 2 (-1)) 3 (-1)), cin g n_130 4 (fun _ => 0), cin g n_131 160 (fun _ => 0), cin g n_132 4 (upd (upd (upd (fun _ => 0) 0 (-1)) 1 (-1)) 2 (-1))]) rfl (fun H locs hw => ?_)
  refine lv_dup hx hb dX11_init_838 rfl ?_
  refine lv_iconst (v := 3) hx hb dX11_init_839 (by decide) ?_
  refine lv_iconst (v := (-1)) hx hb dX11_init_840 (by decide) ?_
  refine rsj hf hk hw 12 rfl (j := 3) (vp_in_nI (n := 3) (by omega) (by omega)) (rfl) dX11_init_841 (W' := [cob oh 11 [.ref n_1, .ref n_2, .ref n_3, .ref n_4, .int 0, .ref n_5, .ref n_6, .int 0, .ref n_7, .int 0, .int 0, .int 0, .int 0, .ref n_128, .int 0, .ref n_129, .ref n_130, .ref n_131, .null, .null, .null, .int 0, .int 0, .int 0], cin g n_1 51 (fun _ => 0), cin g n_2 51 (fun _ => 0), cin g n_3 51 (fun _ => 0), cin g n_4 51 (fun _ => 0), cin g n_5 8 (fun _ => 0), cin g n_6 200 (fun _ => 0), cch g n_7 120 lf_127, cin g n_128 30 (fun _ => 0), cin g n_129 4 (upd (upd (upd (upd (fun _ => 0) 0 (-1)) 1 (-1)) 2 (-1)) 3 (-1)), cin g n_130 4 (fun _ => 0), cin g n_131 160 (fun _ => 0), cin g n_132 4 (upd (upd (upd (upd (fun _ => 0) 0 (-1)) 1 (-1)) 2 (-1)) 3 (-1))]) rfl (fun H locs hw => ?_)
  refine rpF hf hk hw hnm hinX11 tyX11 tyX11_ok nmX11 0 rfl rfl 18 (by decide) w_16 rfl rfl rfl rfl (Nat.le_of_ble_eq_true rfl) dX11_init_842 (W' := [cob oh 11 [.ref n_1, .ref n_2, .ref n_3, .ref n_4, .int 0, .ref n_5, .ref n_6, .int 0, .ref n_7, .int 0, .int 0, .int 0, .int 0, .ref n_128, .int 0, .ref n_129, .ref n_130, .ref n_131, .ref n_132, .null, .null, .int 0, .int 0, .int 0], cin g n_1 51 (fun _ => 0), cin g n_2 51 (fun _ => 0), cin g n_3 51 (fun _ => 0), cin g n_4 51 (fun _ => 0), cin g n_5 8 (fun _ => 0), cin g n_6 200 (fun _ => 0), cch g n_7 120 lf_127, cin g n_128 30 (fun _ => 0), cin g n_129 4 (upd (upd (upd (upd (fun _ => 0) 0 (-1)) 1 (-1)) 2 (-1)) 3 (-1)), cin g n_130 4 (fun _ => 0), cin g n_131 160 (fun _ => 0), cin g n_132 4 (upd (upd (upd (upd (fun _ => 0) 0 (-1)) 1 (-1)) 2 (-1)) 3 (-1))]) rfl (fun H locs hw => ?_)
  refine lv_aload_n hx hb dX11_init_845 rfl (lv_at hl 0 rfl) ?_
  refine lv_iconst (v := 4) hx hb dX11_init_846 (by decide) ?_
  refine rna (atype := .int) hf hk hw hA 0 (N := 4) w_3 rfl rfl (fun _ => rfl) (by decide) (rfl) (Nat.le_of_ble_eq_true rfl) (Nat.le_of_ble_eq_true rfl) (Nat.le_of_ble_eq_true rfl) dX11_init_847 (W' := fun q => [cob oh 11 [.ref n_1, .ref n_2, .ref n_3, .ref n_4, .int 0, .ref n_5, .ref n_6, .int 0, .ref n_7, .int 0, .int 0, .int 0, .int 0, .ref n_128, .int 0, .ref n_129, .ref n_130, .ref n_131, .ref n_132, .null, .null, .int 0, .int 0, .int 0], cin g n_1 51 (fun _ => 0), cin g n_2 51 (fun _ => 0), cin g n_3 51 (fun _ => 0), cin g n_4 51 (fun _ => 0), cin g n_5 8 (fun _ => 0), cin g n_6 200 (fun _ => 0), cch g n_7 120 lf_127, cin g n_128 30 (fun _ => 0), cin g n_129 4 (upd (upd (upd (upd (fun _ => 0) 0 (-1)) 1 (-1)) 2 (-1)) 3 (-1)), cin g n_130 4 (fun _ => 0), cin g n_131 160 (fun _ => 0), cin g n_132 4 (upd (upd (upd (upd (fun _ => 0) 0 (-1)) 1 (-1)) 2 (-1)) 3 (-1)), cin g q 4 (fun _ => 0)]) (fun q => rfl) (fun n_133 H hw => ?_)
  refine rpF hf hk hw hnm hinX11 tyX11 tyX11_ok nmX11 0 rfl rfl 19 (by decide) w_17 rfl rfl rfl rfl (Nat.le_of_ble_eq_true rfl) dX11_init_849 (W' := [cob oh 11 [.ref n_1, .ref n_2, .ref n_3, .ref n_4, .int 0, .ref n_5, .ref n_6, .int 0, .ref n_7, .int 0, .int 0, .int 0, .int 0, .ref n_128, .int 0, .ref n_129, .ref n_130, .ref n_131, .ref n_132, .ref n_133, .null, .int 0, .int 0, .int 0], cin g n_1 51 (fun _ => 0), cin g n_2 51 (fun _ => 0), cin g n_3 51 (fun _ => 0), cin g n_4 51 (fun _ => 0), cin g n_5 8 (fun _ => 0), cin g n_6 200 (fun _ => 0), cch g n_7 120 lf_127, cin g n_128 30 (fun _ => 0), cin g n_129 4 (upd (upd (upd (upd (fun _ => 0) 0 (-1)) 1 (-1)) 2 (-1)) 3 (-1)), cin g n_130 4 (fun _ => 0), cin g n_131 160 (fun _ => 0), cin g n_132 4 (upd (upd (upd (upd (fun _ => 0) 0 (-1)) 1 (-1)) 2 (-1)) 3 (-1)), cin g n_133 4 (fun _ => 0)]) rfl (fun H locs hw => ?_)
  refine lv_aload_n hx hb dX11_init_852 rfl (lv_at hl 0 rfl) ?_
  refine lv_bipush (v := 30) hx hb dX11_init_853 (by decide) ?_
  refine rna (atype := .int) hf hk hw hA 0 (N := 30) w_3 rfl rfl (fun _ => rfl) (by decide) (rfl) (Nat.le_of_ble_eq_true rfl) (Nat.le_of_ble_eq_true rfl) (Nat.le_of_ble_eq_true rfl) dX11_init_855 (W' := fun q => [cob oh 11 [.ref n_1, .ref n_2, .ref n_3, .ref n_4, .int 0, .ref n_5, .ref n_6, .int 0, .ref n_7, .int 0, .int 0, .int 0, .int 0, .ref n_128, .int 0, .ref n_129, .ref n_130, .ref n_131, .ref n_132, .ref n_133, .null, .int 0, .int 0, .int 0], cin g n_1 51 (fun _ => 0), cin g n_2 51 (fun _ => 0), cin g n_3 51 (fun _ => 0), cin g n_4 51 (fun _ => 0), cin g n_5 8 (fun _ => 0), cin g n_6 200 (fun _ => 0), cch g n_7 120 lf_127, cin g n_128 30 (fun _ => 0), cin g n_129 4 (upd (upd (upd (upd (fun _ => 0) 0 (-1)) 1 (-1)) 2 (-1)) 3 (-1)), cin g n_130 4 (fun _ => 0), cin g n_131 160 (fun _ => 0), cin g n_132 4 (upd (upd (upd (upd (fun _ => 0) 0 (-1)) 1 (-1)) 2 (-1)) 3 (-1)), cin g n_133 4 (fun _ => 0), cin g q 30 (fun _ => 0)]) (fun q => rfl) (fun n_134 H hw => ?_)
  refine rpF hf hk hw hnm hinX11 tyX11 tyX11_ok nmX11 0 rfl rfl 20 (by decide) w_18 rfl rfl rfl rfl (Nat.le_of_ble_eq_true rfl) dX11_init_857 (W' := [cob oh 11 [.ref n_1, .ref n_2, .ref n_3, .ref n_4, .int 0, .ref n_5, .ref n_6, .int 0, .ref n_7, .int 0, .int 0, .int 0, .int 0, .ref n_128, .int 0, .ref n_129, .ref n_130, .ref n_131, .ref n_132, .ref n_133, .ref n_134, .int 0, .int 0, .int 0], cin g n_1 51 (fun _ => 0), cin g n_2 51 (fun _ => 0), cin g n_3 51 (fun _ => 0), cin g n_4 51 (fun _ => 0), cin g n_5 8 (fun _ => 0), cin g n_6 200 (fun _ => 0), cch g n_7 120 lf_127, cin g n_128 30 (fun _ => 0), cin g n_129 4 (upd (upd (upd (upd (fun _ => 0) 0 (-1)) 1 (-1)) 2 (-1)) 3 (-1)), cin g n_130 4 (fun _ => 0), cin g n_131 160 (fun _ => 0), cin g n_132 4 (upd (upd (upd (upd (fun _ => 0) 0 (-1)) 1 (-1)) 2 (-1)) 3 (-1)), cin g n_133 4 (fun _ => 0), cin g n_134 30 (fun _ => 0)]) rfl (fun H locs hw => ?_)
  refine lv_aload_n hx hb dX11_init_860 rfl (lv_at hl 0 rfl) ?_
  refine rg hf hk hw hinX11 0 rfl rfl 0 (by decide) w_4 rfl dX11_init_861 ?_
  refine mcS hf hk hst hw (c_X11_begins l g n_1 (fun _ => 0)) (va_cwS 1 hts gX11_init_X11_begins rfl rfl rfl hdS_X11_begins ⟨Nat.le_of_ble_eq_true rfl, Nat.le_of_ble_eq_true rfl⟩) [1] rfl rfl rfl hl.1 rfl (Nat.le_of_ble_eq_true rfl) dX11_init_864 ⟨Nat.le_of_ble_eq_true rfl, Nat.le_of_ble_eq_true rfl⟩ (W' := [cob oh 11 [.ref n_1, .ref n_2, .ref n_3, .ref n_4, .int 0, .ref n_5, .ref n_6, .int 0, .ref n_7, .int 0, .int 0, .int 0, .int 0, .ref n_128, .int 0, .ref n_129, .ref n_130, .ref n_131, .ref n_132, .ref n_133, .ref n_134, .int 0, .int 0, .int 0], cin g n_1 51 (mR 0 tq_first 0 0 (fun _ => 2) (fun _ => 4) (fun _ => 0) (fun _ => 0) (fun _ => 0) (fun _ => 0)), cin g n_2 51 (fun _ => 0), cin g n_3 51 (fun _ => 0), cin g n_4 51 (fun _ => 0), cin g n_5 8 (fun _ => 0), cin g n_6 200 (fun _ => 0), cch g n_7 120 lf_127, cin g n_128 30 (fun _ => 0), cin g n_129 4 (upd (upd (upd (upd (fun _ => 0) 0 (-1)) 1 (-1)) 2 (-1)) 3 (-1)), cin g n_130 4 (fun _ => 0), cin g n_131 160 (fun _ => 0), cin g n_132 4 (upd (upd (upd (upd (fun _ => 0) 0 (-1)) 1 (-1)) 2 (-1)) 3 (-1)), cin g n_133 4 (fun _ => 0), cin g n_134 30 (fun _ => 0)]) rfl (fun H locs hw => ?_)
  refine lv_aload_n hx hb dX11_init_867 rfl (lv_at hl 0 rfl) ?_
  refine rg hf hk hw hinX11 0 rfl rfl 0 (by decide) w_4 rfl dX11_init_868 ?_
  refine lv_iconst (v := 5) hx hb dX11_init_871 (by decide) ?_
  refine lv_iconst (v := 1) hx hb dX11_init_872 (by decide) ?_
  refine rse hf hk hw 1 rfl (j := 5) (vp_in_nI (n := 5) (by omega) (by omega)) (rfl) (mU_z) dX11_init_873 (W' := [cob oh 11 [.ref n_1, .ref n_2, .ref n_3, .ref n_4, .int 0, .ref n_5, .ref n_6, .int 0, .ref n_7, .int 0, .int 0, .int 0, .int 0, .ref n_128, .int 0, .ref n_129, .ref n_130, .ref n_131, .ref n_132, .ref n_133, .ref n_134, .int 0, .int 0, .int 0], cin g n_1 51 (mR 0 tq_first 1 0 (fun _ => 2) (fun _ => 4) (fun _ => 0) (fun _ => 0) (fun _ => 0) (fun _ => 0)), cin g n_2 51 (fun _ => 0), cin g n_3 51 (fun _ => 0), cin g n_4 51 (fun _ => 0), cin g n_5 8 (fun _ => 0), cin g n_6 200 (fun _ => 0), cch g n_7 120 lf_127, cin g n_128 30 (fun _ => 0), cin g n_129 4 (upd (upd (upd (upd (fun _ => 0) 0 (-1)) 1 (-1)) 2 (-1)) 3 (-1)), cin g n_130 4 (fun _ => 0), cin g n_131 160 (fun _ => 0), cin g n_132 4 (upd (upd (upd (upd (fun _ => 0) 0 (-1)) 1 (-1)) 2 (-1)) 3 (-1)), cin g n_133 4 (fun _ => 0), cin g n_134 30 (fun _ => 0)]) rfl (fun H locs hw => ?_)
  have hw := hv_ext hw 9 (f' := fun _ => -1) rfl (fun j hj => by rcases (show j = 0 ∨ j = 1 ∨ j = 2 ∨ j = 3 by omega) with rfl | rfl | rfl | rfl <;> rfl) (W' := [cob oh 11 [.ref n_1, .ref n_2, .ref n_3, .ref n_4, .int 0, .ref n_5, .ref n_6, .int 0, .ref n_7, .int 0, .int 0, .int 0, .int 0, .ref n_128, .int 0, .ref n_129, .ref n_130, .ref n_131, .ref n_132, .ref n_133, .ref n_134, .int 0, .int 0, .int 0], cin g n_1 51 (mR 0 tq_first 1 0 (fun _ => 2) (fun _ => 4) (fun _ => 0) (fun _ => 0) (fun _ => 0) (fun _ => 0)), cin g n_2 51 (fun _ => 0), cin g n_3 51 (fun _ => 0), cin g n_4 51 (fun _ => 0), cin g n_5 8 (fun _ => 0), cin g n_6 200 (fun _ => 0), cch g n_7 120 lf_127, cin g n_128 30 (fun _ => 0), cin g n_129 4 (fun _ => -1), cin g n_130 4 (fun _ => 0), cin g n_131 160 (fun _ => 0), cin g n_132 4 (upd (upd (upd (upd (fun _ => 0) 0 (-1)) 1 (-1)) 2 (-1)) 3 (-1)), cin g n_133 4 (fun _ => 0), cin g n_134 30 (fun _ => 0)]) rfl
  have hw := hv_ext hw 12 (f' := fun _ => -1) rfl (fun j hj => by rcases (show j = 0 ∨ j = 1 ∨ j = 2 ∨ j = 3 by omega) with rfl | rfl | rfl | rfl <;> rfl) (W' := [cob oh 11 [.ref n_1, .ref n_2, .ref n_3, .ref n_4, .int 0, .ref n_5, .ref n_6, .int 0, .ref n_7, .int 0, .int 0, .int 0, .int 0, .ref n_128, .int 0, .ref n_129, .ref n_130, .ref n_131, .ref n_132, .ref n_133, .ref n_134, .int 0, .int 0, .int 0], cin g n_1 51 (mR 0 tq_first 1 0 (fun _ => 2) (fun _ => 4) (fun _ => 0) (fun _ => 0) (fun _ => 0) (fun _ => 0)), cin g n_2 51 (fun _ => 0), cin g n_3 51 (fun _ => 0), cin g n_4 51 (fun _ => 0), cin g n_5 8 (fun _ => 0), cin g n_6 200 (fun _ => 0), cch g n_7 120 lf_127, cin g n_128 30 (fun _ => 0), cin g n_129 4 (fun _ => -1), cin g n_130 4 (fun _ => 0), cin g n_131 160 (fun _ => 0), cin g n_132 4 (fun _ => -1), cin g n_133 4 (fun _ => 0), cin g n_134 30 (fun _ => 0)]) rfl
  have hw := hv_ext hw 7 (f' := mlet) rfl hL (W' := [cob oh 11 [.ref n_1, .ref n_2, .ref n_3, .ref n_4, .int 0, .ref n_5, .ref n_6, .int 0, .ref n_7, .int 0, .int 0, .int 0, .int 0, .ref n_128, .int 0, .ref n_129, .ref n_130, .ref n_131, .ref n_132, .ref n_133, .ref n_134, .int 0, .int 0, .int 0], cin g n_1 51 (mR 0 tq_first 1 0 (fun _ => 2) (fun _ => 4) (fun _ => 0) (fun _ => 0) (fun _ => 0) (fun _ => 0)), cin g n_2 51 (fun _ => 0), cin g n_3 51 (fun _ => 0), cin g n_4 51 (fun _ => 0), cin g n_5 8 (fun _ => 0), cin g n_6 200 (fun _ => 0), cch g n_7 120 mlet, cin g n_128 30 (fun _ => 0), cin g n_129 4 (fun _ => -1), cin g n_130 4 (fun _ => 0), cin g n_131 160 (fun _ => 0), cin g n_132 4 (fun _ => -1), cin g n_133 4 (fun _ => 0), cin g n_134 30 (fun _ => 0)]) rfl
  have hw : hv g (va_A [cob oh 11 [.null, .null, .null, .null, .int 0, .null, .null, .int 0, .null, .int 0, .int 0, .int 0, .int 0, .null, .int 0, .null, .null, .null, .null, .null, .null, .int 0, .int 0, .int 0]] sz) s H locs [cob oh 11 [.ref n_1, .ref n_2, .ref n_3, .ref n_4, .int 0, .ref n_5, .ref n_6, .int 0, .ref n_7, .int 0, .int 0, .int 0, .int 0, .ref n_128, .int 0, .ref n_129, .ref n_130, .ref n_131, .ref n_132, .ref n_133, .ref n_134, .int 0, .int 0, .int 0], cin g n_1 51 (mR 0 tq_first 1 0 (fun _ => 2) (fun _ => 4) (fun _ => 0) (fun _ => 0) (fun _ => 0) (fun _ => 0)), cin g n_2 51 (fun _ => 0), cin g n_3 51 (fun _ => 0), cin g n_4 51 (fun _ => 0), cin g n_5 8 (fun _ => 0), cin g n_6 200 (fun _ => 0), cch g n_7 120 mlet, cin g n_128 30 (fun _ => 0), cin g n_129 4 (fun _ => -1), cin g n_130 4 (fun _ => 0), cin g n_131 160 (fun _ => 0), cin g n_132 4 (fun _ => -1), cin g n_133 4 (fun _ => 0), cin g n_134 30 (fun _ => 0)] := hv_pick hw [0, 1, 2, 3, 4, 5, 6, 7, 8, 9, 10, 11, 12, 13, 14] rfl rfl
  refine W.widen (k := 14) (n := 768) (Nat.le_of_ble_eq_true rfl) (Nat.le_of_ble_eq_true rfl) ?_
  exact rA_v hf hr hlk hw ⟨rfl, n_1, n_2, n_3, n_4, n_5, n_6, n_7, n_128, n_129, n_130, n_131, n_132, n_133, n_134, rfl⟩ dX11_init_874
abbrev rmX10_sheet : Room := { frames := 2, cells := 2, slots := 42, locals := 42 }
set_option maxHeartbeats 4000000 in
set_option maxRecDepth 100000 in
theorem c_X10_sheet (l : Launch) (g : GG) (lh : Nat) (t : Nat) (xt : Nat) (yt : Nat) (ak : Nat) (isk : Int32) (ltp : Nat) (lrw : Nat) (rc : Nat) (lac : Nat) (lsh : Nat) (lhh : Nat) (lhg : Nat) (lhr : Nat) (sheet : Int32) (sort : Int32) (n : Int32) (sht : Nat → Option Nat) (sz : Nat) : mtA l g yX10_sheet wsX10_sheet rmX10_sheet [.ref lh, .int sheet, .int sort, .int n] [cob lh 10 [.ref ak, .ref t, .ref yt, .ref xt, .int isk, .ref ltp, .ref lrw, .int (nI rc), .ref lac, .ref lsh, .ref lhh, .ref lhg, .ref lhr], cit g lsh 4 sht] sz (fun rv W => (∃ (ia iv : Nat), (f_X10_isOutside sheet 0 3 = 0 ∧ f_X10_isOutside sort (-1) 3 = 0 ∧ ¬ sort = -1 ∧ n ≤ 40 ∧ 0 ≤ n) ∧ rv = some (.int 1) ∧ W = [cob lh 10 [.ref ak, .ref t, .ref yt, .ref xt, .int isk, .ref ltp, .ref lrw, .int (nI rc), .ref lac, .ref lsh, .ref lhh, .ref lhg, .ref lhr], cit g lsh 4 (va_up sht (ix sheet) (some ia)), cob ia 3 [.int sort, .ref iv], cin g iv (ix n) (fun _ => 0)]) ∨ (¬ (f_X10_isOutside sheet 0 3 = 0 ∧ f_X10_isOutside sort (-1) 3 = 0 ∧ ¬ sort = -1 ∧ n ≤ 40 ∧ 0 ≤ n) ∧ rv = some (.int (if f_X10_isOutside sheet 0 3 = 0 then (if f_X10_isOutside sort (-1) 3 = 0 then (if sort = -1 then 1 else if n ≤ 40 then -14 else -1) else -1) else -1)) ∧ W = [cob lh 10 [.ref ak, .ref t, .ref yt, .ref xt, .int isk, .ref ltp, .ref lrw, .int (nI rc), .ref lac, .ref lsh, .ref lhh, .ref lhg, .ref lhr], cit g lsh 4 (if f_X10_isOutside sheet 0 3 = 0 then (if f_X10_isOutside sort (-1) 3 = 0 then (if sort = -1 then va_up sht (ix sheet) none else sht) else sht) else sht)])) 2 42 := by
  refine mtA.of (cc := cX10_sheet) (nL := 4) (ret := (some .int)) (own := RX10) (by decide +kernel) rfl rfl (Nat.le_of_ble_eq_true rfl) (fun p e s m below meth c hf hr hlk hnm hk hkN hst hw hA ls hl => ?_)
  have hx := hf.1
  have hb := hf.2.1
  have hts := hf.2.2.2.2
  have hl : lv_has ls 4 [(0, .ref lh), (1, .int sheet), (2, .int sort), (3, .int n)] := hl
  have hinX10 : ∀ w ∈ u_ws RX10 TX10 13, w ∈ wsX10_sheet := fun w h => List.mem_cons_of_mem _ (List.mem_append_left _ (List.mem_append_right _ h))
  have w_0 : Cond.fieldLink RX10 74 "LightMan" "sheets" "[LLightMan$Items;" ∈ wsX10_sheet := List.mem_of_getElem? (i := 1) rfl
  have hinX3 : ∀ w ∈ u_ws RX3 TX3 2, w ∈ wsX10_sheet := fun w h => List.mem_cons_of_mem _ (List.mem_append_right _ h)
  have w_1 : Cond.classLink RX10 72 RX3 ∈ wsX10_sheet := List.mem_of_getElem? (i := 2) rfl
  have w_2 : Cond.instantiable RX3 2 ∈ wsX10_sheet := List.mem_of_getElem? (i := 3) rfl
  have w_3 : Cond.initialized RX3 ∈ wsX10_sheet := List.mem_of_getElem? (i := 4) rfl
  have w_4 : Cond.methodLink RX10 266 yX3_init ∈ wsX10_sheet := List.mem_of_getElem? (i := 12) rfl
  have w_5 : Cond.instanceMethod yX3_init ∈ wsX10_sheet := List.mem_of_getElem? (i := 13) rfl
  refine lv_iload_n hx hb dX10_sheet_0 rfl (lv_at hl 1 rfl) ?_
  refine mcS hf hk hst hw (c_X10_isNoSheet l g sheet) (va_cwS 1 hts gX10_sheet_X10_isNoSheet rfl rfl rfl hdS_X10_isNoSheet ⟨Nat.le_of_ble_eq_true rfl, Nat.le_of_ble_eq_true rfl⟩) [] rfl rfl rfl hl.1 rfl (Nat.le_of_ble_eq_true rfl) dX10_sheet_1 ⟨Nat.le_of_ble_eq_true rfl, Nat.le_of_ble_eq_true rfl⟩ (W' := [cob lh 10 [.ref ak, .ref t, .ref yt, .ref xt, .int isk, .ref ltp, .ref lrw, .int (nI rc), .ref lac, .ref lsh, .ref lhh, .ref lhg, .ref lhr], cit g lsh 4 sht]) rfl (fun H locs hw => ?_)
  refine lv_if_ne (tgt := 16) hx hb dX10_sheet_4 (by decide) (fun c_1 => ?_) (fun c_1 => ?_)
  · refine lv_iconst (v := (-1)) hx hb dX10_sheet_16 (by decide) ?_
    refine W.widen (k := 2) (n := 42) (Nat.le_of_ble_eq_true rfl) (Nat.le_of_ble_eq_true rfl) ?_
    exact rA_i hf hr hlk hw (Or.inr ⟨fun h => c_1 h.1, by simp only [if_neg c_1], by simp only [if_neg c_1]⟩) dX10_sheet_17
  · have hs := out_n (N := 3) (by decide) c_1
    have hs2 := hs.2
    refine lv_iload_n hx hb dX10_sheet_7 rfl (lv_at hl 2 rfl) ?_
    refine lv_iconst (v := (-1)) hx hb dX10_sheet_8 (by decide) ?_
    refine lv_iconst (v := 3) hx hb dX10_sheet_9 (by decide) ?_
    refine mcS hf hk hst hw (c_X10_isOutside l g sort (-1) 3) (va_cwS 3 hts gX10_sheet_X10_isOutside rfl rfl rfl hdS_X10_isOutside ⟨Nat.le_of_ble_eq_true rfl, Nat.le_of_ble_eq_true rfl⟩) [] rfl rfl rfl hl.1 rfl (Nat.le_of_ble_eq_true rfl) dX10_sheet_10 ⟨Nat.le_of_ble_eq_true rfl, Nat.le_of_ble_eq_true rfl⟩ (W' := [cob lh 10 [.ref ak, .ref t, .ref yt, .ref xt, .int isk, .ref ltp, .ref lrw, .int (nI rc), .ref lac, .ref lsh, .ref lhh, .ref lhg, .ref lhr], cit g lsh 4 sht]) rfl (fun H locs hw => ?_)
    refine lv_if_eq (tgt := 18) hx hb dX10_sheet_13 (by decide) (fun c_2 => ?_) (fun c_2 => ?_)
    · refine lv_iload_n hx hb dX10_sheet_18 rfl (lv_at hl 2 rfl) ?_
      refine lv_iconst (v := (-1)) hx hb dX10_sheet_19 (by decide) ?_
      refine lv_icmp_ne (tgt := 32) hx hb dX10_sheet_20 (by decide) (fun c_3 => ?_) (fun c_3 => ?_)
      · refine lv_iload_n hx hb dX10_sheet_32 rfl (lv_at hl 3 rfl) ?_
        refine lv_bipush (v := 40) hx hb dX10_sheet_33 (by decide) ?_
        refine lv_icmp_le (tgt := 40) hx hb dX10_sheet_35 (by decide) (fun c_4 => ?_) (fun c_4 => ?_)
        · have hle := c_4
          refine lv_iload_n hx hb dX10_sheet_40 rfl (lv_at hl 3 rfl) ?_
          refine lv_if_ge (tgt := 47) hx hb dX10_sheet_41 (by decide) (fun c_5 => ?_) (fun c_5 => ?_)
          · have hn_ : n = nI (ix n) ∧ ix n ≤ 40 := by obtain ⟨j, hj, e⟩ := nI_of2 (M := 40) (n := 40) rfl (Int32.not_lt.mpr c_5) hle; have e2 : ix n = j := (by rw [e]; exact nI_clamp (by omega)); rw [e2]; exact ⟨e, hj⟩
            refine lv_aload_n hx hb dX10_sheet_47 rfl (lv_at hl 0 rfl) ?_
            refine rg hf hk hw hinX10 0 rfl rfl 9 (by decide) w_0 rfl dX10_sheet_48 ?_
            refine lv_iload_n hx hb dX10_sheet_51 rfl (lv_at hl 1 rfl) ?_
            refine lv_tope (y := nI (ix sheet)) hs.1 ?_
            refine rn (ci := 3) (fs := [.int 0, .null]) hf hk hw hA hinX3 tyX3 tyX3_ok w_1 w_2 w_3 rfl (fun j hj => by rcases (show j = 0 ∨ j = 1 by omega) with rfl | rfl <;> rfl) (Nat.le_of_ble_eq_true rfl) (Nat.le_of_ble_eq_true rfl) dX10_sheet_52 (W' := fun q => [cob lh 10 [.ref ak, .ref t, .ref yt, .ref xt, .int isk, .ref ltp, .ref lrw, .int (nI rc), .ref lac, .ref lsh, .ref lhh, .ref lhg, .ref lhr], cit g lsh 4 sht, cob q 3 [.int 0, .null]]) (fun q => rfl) (fun n_6 H hw => ?_)
            refine lv_dup hx hb dX10_sheet_55 rfl ?_
            refine lv_iload_n hx hb dX10_sheet_56 rfl (lv_at hl 2 rfl) ?_
            refine lv_iload_n hx hb dX10_sheet_57 rfl (lv_at hl 3 rfl) ?_
            refine lv_tope (y := nI (ix n)) hn_.1 ?_
            refine mcI (wr := [cob lh 10 [.ref ak, .ref t, .ref yt, .ref xt, .int isk, .ref ltp, .ref lrw, .int (nI rc), .ref lac, .ref lsh, .ref lhh, .ref lhg, .ref lhr], cit g lsh 4 sht]) hf hk hkN hst hw hA (c_X3_init l g n_6 sort (ix n) _ (hn_.2)) (cwI 2 hts gX10_sheet_X3_init rfl rfl rfl (hts _ w_3) (hts _ w_4) (hts _ w_5) rfl (by decide +kernel) ⟨Nat.le_of_ble_eq_true rfl, Nat.le_of_ble_eq_true rfl⟩) [2] [0, 1] rfl rfl rfl rfl (by decide) rfl hl.1 rfl (Nat.le_of_ble_eq_true rfl) dX10_sheet_58 ⟨Nat.le_of_ble_eq_true rfl, Nat.le_of_ble_eq_true rfl⟩ (fun rv ws2 hPo H locs hw => ?_)
            obtain ⟨rfl, u7_a1, rfl⟩ := hPo
            have hw : hv g (va_A [cob lh 10 [.ref ak, .ref t, .ref yt, .ref xt, .int isk, .ref ltp, .ref lrw, .int (nI rc), .ref lac, .ref lsh, .ref lhh, .ref lhg, .ref lhr], cit g lsh 4 sht] sz) s H locs [cob lh 10 [.ref ak, .ref t, .ref yt, .ref xt, .int isk, .ref ltp, .ref lrw, .int (nI rc), .ref lac, .ref lsh, .ref lhh, .ref lhg, .ref lhr], cit g lsh 4 sht, cob n_6 3 [.int sort, .ref u7_a1], cin g u7_a1 (ix n) (fun _ => 0)] := hw
            refine rqs hf hk hw 1 2 rfl rfl (j := ix sheet) (vp_in_nI (by omega) (by omega)) (nI_clamp (by omega)) dX10_sheet_61 (W' := [cob lh 10 [.ref ak, .ref t, .ref yt, .ref xt, .int isk, .ref ltp, .ref lrw, .int (nI rc), .ref lac, .ref lsh, .ref lhh, .ref lhg, .ref lhr], cit g lsh 4 (va_up sht (ix sheet) (some n_6)), cob n_6 3 [.int sort, .ref u7_a1], cin g u7_a1 (ix n) (fun _ => 0)]) rfl (fun H locs hw => ?_)
            refine lv_iconst (v := 1) hx hb dX10_sheet_62 (by decide) ?_
            refine W.widen (k := 2) (n := 42) (Nat.le_of_ble_eq_true rfl) (Nat.le_of_ble_eq_true rfl) ?_
            exact rA_i hf hr hlk hw (Or.inl ⟨n_6, u7_a1, ⟨c_1, c_2, c_3, c_4, c_5⟩, rfl, rfl⟩) dX10_sheet_63
          · refine lv_bipush (v := (-14)) hx hb dX10_sheet_44 (by decide) ?_
            refine W.widen (k := 2) (n := 42) (Nat.le_of_ble_eq_true rfl) (Nat.le_of_ble_eq_true rfl) ?_
            exact rA_i hf hr hlk hw (Or.inr ⟨fun h => c_5 h.2.2.2.2, by simp only [if_pos c_1, if_pos c_2, if_neg c_3, if_pos c_4], by simp only [if_pos c_1, if_pos c_2, if_neg c_3, if_pos c_4]⟩) dX10_sheet_46
        · refine lv_iconst (v := (-1)) hx hb dX10_sheet_38 (by decide) ?_
          refine W.widen (k := 2) (n := 42) (Nat.le_of_ble_eq_true rfl) (Nat.le_of_ble_eq_true rfl) ?_
          exact rA_i hf hr hlk hw (Or.inr ⟨fun h => c_4 h.2.2.2.1, by simp only [if_pos c_1, if_pos c_2, if_neg c_3, if_neg c_4], by simp only [if_pos c_1, if_pos c_2, if_neg c_3, if_neg c_4]⟩) dX10_sheet_39
      · refine lv_aload_n hx hb dX10_sheet_23 rfl (lv_at hl 0 rfl) ?_
        refine rg hf hk hw hinX10 0 rfl rfl 9 (by decide) w_0 rfl dX10_sheet_24 ?_
        refine lv_iload_n hx hb dX10_sheet_27 rfl (lv_at hl 1 rfl) ?_
        refine lv_tope (y := nI (ix sheet)) hs.1 ?_
        refine lv_null hx hb dX10_sheet_28 ?_
        refine rqn hf hk hw 1 rfl (j := ix sheet) (vp_in_nI (by omega) (by omega)) (nI_clamp (by omega)) dX10_sheet_29 (W' := [cob lh 10 [.ref ak, .ref t, .ref yt, .ref xt, .int isk, .ref ltp, .ref lrw, .int (nI rc), .ref lac, .ref lsh, .ref lhh, .ref lhg, .ref lhr], cit g lsh 4 (va_up sht (ix sheet) none)]) rfl (fun H locs hw => ?_)
        refine lv_iconst (v := 1) hx hb dX10_sheet_30 (by decide) ?_
        refine W.widen (k := 2) (n := 42) (Nat.le_of_ble_eq_true rfl) (Nat.le_of_ble_eq_true rfl) ?_
        exact rA_i hf hr hlk hw (Or.inr ⟨fun h => h.2.2.1 c_3, by simp only [if_pos c_1, if_pos c_2, if_pos c_3], by simp only [if_pos c_1, if_pos c_2, if_pos c_3]⟩) dX10_sheet_31
    · refine lv_iconst (v := (-1)) hx hb dX10_sheet_16 (by decide) ?_
      refine W.widen (k := 2) (n := 42) (Nat.le_of_ble_eq_true rfl) (Nat.le_of_ble_eq_true rfl) ?_
      exact rA_i hf hr hlk hw (Or.inr ⟨fun h => c_2 h.2.1, by simp only [if_pos c_1, if_neg c_2], by simp only [if_pos c_1, if_neg c_2]⟩) dX10_sheet_17
