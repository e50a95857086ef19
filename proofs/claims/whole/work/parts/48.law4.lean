set_option maxRecDepth 20000 in
theorem lw_loop {p : Program} {l : Launch} {e : Env} {s : State} {m : MethodId} {below : List Frame} {meth : Method} {c : Code} {b L : Nat} {xs : Nat → Int32} {D : va_G} {c3 : sw_C3} {ad : Nat → Nat} (X : lw_X p s m meth c b L xs D c3 ad) : ∀ (n k : Nat) (σ : sw_S), sw_J (400 * (k : Int)) σ σ → 6 * k ≤ L + 6 → L + 7 - 6 * k < n → lw_E p l e s m below meth c b D c3 ad 18 (6 * k) [] σ := by
  intro n
  induction n with
  | zero => intro k σ J h1 h2; omega
  | succ n ih =>
    intro k σ J h1 h2
    have X0 := X
    obtain ⟨⟨hx, hb, hr, hml, hown, hts, hX, hbl, hlocks, hgv⟩, hK, hj, hA, hL⟩ := X0
    have go : ∀ σ2, sw_J (400 * (k : Int) + 400) σ2 σ2 → 6 * k + 6 ≤ L → lw_E p l e s m below meth c b D c3 ad 1367 (6 * k) [] σ2 := fun σ2 J2 hk => by
      refine lr_next X ?_
      have h9 := ih (k + 1) σ2 (by rw [show 400 * ((k + 1 : Nat) : Int) = 400 * (k : Int) + 400 by omega]; exact J2) (by omega) (by omega)
      rw [show 6 * (k + 1) = 6 * k + 6 by omega] at h9
      exact h9
    intro H locs ls hP hS hl
    refine lv_iload_n hx hb (show decode code 18 = .ok (.iload_n 3, 1) by decide +kernel) rfl (lv_at hl 0 rfl) ?_
    refine lv_aload_n hx hb (show decode code 19 = .ok (.aload_n 0, 1) by decide +kernel) rfl (lv_at hl 3 rfl) ?_
    refine va_slen hx hb hX hbl (Nat.not_le.mpr hbl) hS (show decode code 20 = .ok (.arraylength, 1) by decide +kernel) ?_
    refine lv_bipush (v := 6) hx hb (show decode code 21 = .ok (.bipush 6, 2) by decide +kernel) (by decide) ?_
    refine lv_isub hx hb (show decode code 23 = .ok (.isub, 1) by decide +kernel) ?_
    have eL : (Int32.ofNat L - 6).toInt = (L : Int) - 6 := by
      have e1 : Int32.ofNat L - 6 = Int32.ofInt ((L : Int) - 6) := by
        rw [Int32.ofInt_sub]
        rfl
      rw [e1]
      exact sw_ti ⟨by omega, by omega⟩
    have ek : (nI (6 * k)).toInt = ((6 * k : Nat) : Int) := nI_toInt (by omega)
    refine lv_icmp_gt (tgt := 1373) hx hb (show decode code 24 = .ok (.if_icmp .gt 1349, 3) by decide +kernel) (by decide) (fun z => ?_) (fun z => ?_)
    · refine lv_iconst (v := 1) hx hb (show decode code 1373 = .ok (.iconst 1, 1) by decide +kernel) (by decide) ?_
      refine va_forget (fun q hq => hS.2.2 q hq) ?_
      exact lw_ret hx hb hr hlocks (show decode code 1374 = .ok (.ireturn, 1) by decide +kernel)
    · rw [Int32.lt_iff_toInt_lt, eL, ek] at z
      have hk : 6 * k + 6 ≤ L := by omega
      refine lv_aload_n hx hb (show decode code 27 = .ok (.aload_n 0, 1) by decide +kernel) rfl (lv_at hl 3 rfl) ?_
      refine lv_iload_n hx hb (show decode code 28 = .ok (.iload_n 3, 1) by decide +kernel) rfl (lv_at hl 0 rfl) ?_
      refine va_sld hx hb hX hbl (Nat.not_le.mpr hbl) hS (vp_in_nI (by omega) (by omega)) (show decode code 29 = .ok (.iaload, 1) by decide +kernel) ?_
      refine lv_bipush (v := 63) hx hb (show decode code 30 = .ok (.bipush 63, 2) by decide +kernel) (by decide) ?_
      refine lv_iand hx hb (show decode code 32 = .ok (.iand, 1) by decide +kernel) ?_
      refine lv_topi (fun v ev => ?_)
      have hv : (v.toInt < 0 ∨ 35 < v.toInt) ∨ v.toInt = 0 ∨ v.toInt = 1 ∨ v.toInt = 2 ∨ v.toInt = 3 ∨ v.toInt = 4 ∨ v.toInt = 5 ∨ v.toInt = 6 ∨ v.toInt = 7 ∨ v.toInt = 8 ∨ v.toInt = 9 ∨ v.toInt = 10 ∨ v.toInt = 11 ∨ v.toInt = 12 ∨ v.toInt = 13 ∨ v.toInt = 14 ∨ v.toInt = 15 ∨ v.toInt = 16 ∨ v.toInt = 17 ∨ v.toInt = 18 ∨ v.toInt = 19 ∨ v.toInt = 20 ∨ v.toInt = 21 ∨ v.toInt = 22 ∨ v.toInt = 23 ∨ v.toInt = 24 ∨ v.toInt = 25 ∨ v.toInt = 26 ∨ v.toInt = 27 ∨ v.toInt = 28 ∨ v.toInt = 29 ∨ v.toInt = 30 ∨ v.toInt = 31 ∨ v.toInt = 32 ∨ v.toInt = 33 ∨ v.toInt = 34 ∨ v.toInt = 35 := by omega
      have hN : 0 ≤ 400 * (k : Int) ∧ 400 * (k : Int) ≤ 900000 := by omega
      have dsw := (show decode code 33 = .ok (.tableswitch 1334 0 35 #[159, 202, 245, 278, 311, 334, 367, 390, 439, 472, 505, 528, 551, 574, 617, 640, 673, 696, 719, 752, 775, 798, 821, 854, 907, 950, 983, 1026, 1049, 1102, 1145, 1208, 1231, 1264, 1297, 1320], 159) by decide +kernel)
      rcases hv with hv | hv | hv | hv | hv | hv | hv | hv | hv | hv | hv | hv | hv | hv | hv | hv | hv | hv | hv | hv | hv | hv | hv | hv | hv | hv | hv | hv | hv | hv | hv | hv | hv | hv | hv | hv | hv
      · refine lv_tableOut (tgt := 1367) hx hb dsw hv (by decide) ?_
        exact go σ (sw_J_mono (by omega) J) hk H locs ls hP hS hl
      · refine lv_tableIn (tgt := 192) (off := 159) hx hb dsw (by omega) (by omega) (by rw [hv]; rfl) (by decide) ?_
        exact lc_0 X hk hN J (fun σ2 J2 => go σ2 J2 hk) H locs ls hP hS hl
      · refine lv_tableIn (tgt := 235) (off := 202) hx hb dsw (by omega) (by omega) (by rw [hv]; rfl) (by decide) ?_
        exact lc_1 X hk hN J (fun σ2 J2 => go σ2 J2 hk) H locs ls hP hS hl
      · refine lv_tableIn (tgt := 278) (off := 245) hx hb dsw (by omega) (by omega) (by rw [hv]; rfl) (by decide) ?_
        exact lc_2 X hk hN J (fun σ2 J2 => go σ2 J2 hk) H locs ls hP hS hl
      · refine lv_tableIn (tgt := 311) (off := 278) hx hb dsw (by omega) (by omega) (by rw [hv]; rfl) (by decide) ?_
        exact lc_3 X hk hN J (fun σ2 J2 => go σ2 J2 hk) H locs ls hP hS hl
      · refine lv_tableIn (tgt := 344) (off := 311) hx hb dsw (by omega) (by omega) (by rw [hv]; rfl) (by decide) ?_
        exact lc_4 X hk hN J (fun σ2 J2 => go σ2 J2 hk) H locs ls hP hS hl
      · refine lv_tableIn (tgt := 367) (off := 334) hx hb dsw (by omega) (by omega) (by rw [hv]; rfl) (by decide) ?_
        exact lc_5 X hk hN J (fun σ2 J2 => go σ2 J2 hk) H locs ls hP hS hl
      · refine lv_tableIn (tgt := 400) (off := 367) hx hb dsw (by omega) (by omega) (by rw [hv]; rfl) (by decide) ?_
        exact lc_6 X hk hN J (fun σ2 J2 => go σ2 J2 hk) H locs ls hP hS hl
      · refine lv_tableIn (tgt := 423) (off := 390) hx hb dsw (by omega) (by omega) (by rw [hv]; rfl) (by decide) ?_
        exact lc_7 X hk hN J (fun σ2 J2 => go σ2 J2 hk) H locs ls hP hS hl
      · refine lv_tableIn (tgt := 472) (off := 439) hx hb dsw (by omega) (by omega) (by rw [hv]; rfl) (by decide) ?_
        exact lc_8 X hk hN J (fun σ2 J2 => go σ2 J2 hk) H locs ls hP hS hl
      · refine lv_tableIn (tgt := 505) (off := 472) hx hb dsw (by omega) (by omega) (by rw [hv]; rfl) (by decide) ?_
        exact lc_9 X hk hN J (fun σ2 J2 => go σ2 J2 hk) H locs ls hP hS hl
      · refine lv_tableIn (tgt := 538) (off := 505) hx hb dsw (by omega) (by omega) (by rw [hv]; rfl) (by decide) ?_
        exact lc_10 X hk hN J (fun σ2 J2 => go σ2 J2 hk) H locs ls hP hS hl
      · refine lv_tableIn (tgt := 561) (off := 528) hx hb dsw (by omega) (by omega) (by rw [hv]; rfl) (by decide) ?_
        exact lc_11 X hk hN J (fun σ2 J2 => go σ2 J2 hk) H locs ls hP hS hl
      · refine lv_tableIn (tgt := 584) (off := 551) hx hb dsw (by omega) (by omega) (by rw [hv]; rfl) (by decide) ?_
        exact lc_12 X hk hN J (fun σ2 J2 => go σ2 J2 hk) H locs ls hP hS hl
      · refine lv_tableIn (tgt := 607) (off := 574) hx hb dsw (by omega) (by omega) (by rw [hv]; rfl) (by decide) ?_
        exact lc_13 X hk hN J (fun σ2 J2 => go σ2 J2 hk) H locs ls hP hS hl
      · refine lv_tableIn (tgt := 650) (off := 617) hx hb dsw (by omega) (by omega) (by rw [hv]; rfl) (by decide) ?_
        exact lc_14 X hk hN J (fun σ2 J2 => go σ2 J2 hk) H locs ls hP hS hl
      · refine lv_tableIn (tgt := 673) (off := 640) hx hb dsw (by omega) (by omega) (by rw [hv]; rfl) (by decide) ?_
        exact lc_15 X hk hN J (fun σ2 J2 => go σ2 J2 hk) H locs ls hP hS hl
      · refine lv_tableIn (tgt := 706) (off := 673) hx hb dsw (by omega) (by omega) (by rw [hv]; rfl) (by decide) ?_
        exact lc_16 X hk hN J (fun σ2 J2 => go σ2 J2 hk) H locs ls hP hS hl
      · refine lv_tableIn (tgt := 729) (off := 696) hx hb dsw (by omega) (by omega) (by rw [hv]; rfl) (by decide) ?_
        exact lc_17 X hk hN J (fun σ2 J2 => go σ2 J2 hk) H locs ls hP hS hl
      · refine lv_tableIn (tgt := 752) (off := 719) hx hb dsw (by omega) (by omega) (by rw [hv]; rfl) (by decide) ?_
        exact lc_18 X hk hN J (fun σ2 J2 => go σ2 J2 hk) H locs ls hP hS hl
      · refine lv_tableIn (tgt := 785) (off := 752) hx hb dsw (by omega) (by omega) (by rw [hv]; rfl) (by decide) ?_
        exact lc_19 X hk hN J (fun σ2 J2 => go σ2 J2 hk) H locs ls hP hS hl
      · refine lv_tableIn (tgt := 808) (off := 775) hx hb dsw (by omega) (by omega) (by rw [hv]; rfl) (by decide) ?_
        exact lc_20 X hk hN J (fun σ2 J2 => go σ2 J2 hk) H locs ls hP hS hl
      · refine lv_tableIn (tgt := 831) (off := 798) hx hb dsw (by omega) (by omega) (by rw [hv]; rfl) (by decide) ?_
        exact lc_21 X hk hN J (fun σ2 J2 => go σ2 J2 hk) H locs ls hP hS hl
      · refine lv_tableIn (tgt := 854) (off := 821) hx hb dsw (by omega) (by omega) (by rw [hv]; rfl) (by decide) ?_
        exact lc_22 X hk hN J (fun σ2 J2 => go σ2 J2 hk) H locs ls hP hS hl
      · refine lv_tableIn (tgt := 887) (off := 854) hx hb dsw (by omega) (by omega) (by rw [hv]; rfl) (by decide) ?_
        exact lc_23 X hk hN J (fun σ2 J2 => go σ2 J2 hk) H locs ls hP hS hl
      · refine lv_tableIn (tgt := 940) (off := 907) hx hb dsw (by omega) (by omega) (by rw [hv]; rfl) (by decide) ?_
        exact lc_24 X hk hN J (fun σ2 J2 => go σ2 J2 hk) H locs ls hP hS hl
      · refine lv_tableIn (tgt := 983) (off := 950) hx hb dsw (by omega) (by omega) (by rw [hv]; rfl) (by decide) ?_
        exact lc_25 X hk hN J (fun σ2 J2 => go σ2 J2 hk) H locs ls hP hS hl
      · refine lv_tableIn (tgt := 1016) (off := 983) hx hb dsw (by omega) (by omega) (by rw [hv]; rfl) (by decide) ?_
        exact lc_26 X hk hN J (fun σ2 J2 => go σ2 J2 hk) H locs ls hP hS hl
      · refine lv_tableIn (tgt := 1059) (off := 1026) hx hb dsw (by omega) (by omega) (by rw [hv]; rfl) (by decide) ?_
        exact lc_27 X hk hN J (fun σ2 J2 => go σ2 J2 hk) H locs ls hP hS hl
      · refine lv_tableIn (tgt := 1082) (off := 1049) hx hb dsw (by omega) (by omega) (by rw [hv]; rfl) (by decide) ?_
        exact lc_28 X hk hN J (fun σ2 J2 => go σ2 J2 hk) H locs ls hP hS hl
      · refine lv_tableIn (tgt := 1135) (off := 1102) hx hb dsw (by omega) (by omega) (by rw [hv]; rfl) (by decide) ?_
        exact lc_29 X hk hN J (fun σ2 J2 => go σ2 J2 hk) H locs ls hP hS hl
      · refine lv_tableIn (tgt := 1178) (off := 1145) hx hb dsw (by omega) (by omega) (by rw [hv]; rfl) (by decide) ?_
        exact lc_30 X hk hN J (fun σ2 J2 => go σ2 J2 hk) H locs ls hP hS hl
      · refine lv_tableIn (tgt := 1241) (off := 1208) hx hb dsw (by omega) (by omega) (by rw [hv]; rfl) (by decide) ?_
        exact lc_31 X hk hN J (fun σ2 J2 => go σ2 J2 hk) H locs ls hP hS hl
      · refine lv_tableIn (tgt := 1264) (off := 1231) hx hb dsw (by omega) (by omega) (by rw [hv]; rfl) (by decide) ?_
        exact lc_32 X hk hN J (fun σ2 J2 => go σ2 J2 hk) H locs ls hP hS hl
      · refine lv_tableIn (tgt := 1297) (off := 1264) hx hb dsw (by omega) (by omega) (by rw [hv]; rfl) (by decide) ?_
        exact lc_33 X hk hN J (fun σ2 J2 => go σ2 J2 hk) H locs ls hP hS hl
      · refine lv_tableIn (tgt := 1330) (off := 1297) hx hb dsw (by omega) (by omega) (by rw [hv]; rfl) (by decide) ?_
        exact lc_34 X hk hN J (fun σ2 J2 => go σ2 J2 hk) H locs ls hP hS hl
      · refine lv_tableIn (tgt := 1353) (off := 1320) hx hb dsw (by omega) (by omega) (by rw [hv]; rfl) (by decide) ?_
        exact lc_35 X hk hN J (fun σ2 J2 => go σ2 J2 hk) H locs ls hP hS hl
