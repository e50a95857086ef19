theorem sw_w0_i (c3 : sw_C3) (ad : Nat → Nat) (i n : Nat) (h : ∀ j, sw_s0 i j = 0) : sw_ce c3 ad sw_rho sw_s0 i (100, n) = .inl (c3.1, n, .inl fun _ => 0) := by
  unfold sw_ce
  rw [if_pos rfl]
  simp only [h]
  rfl
theorem sw_w0_z (c3 : sw_C3) (ad : Nat → Nat) (i n : Nat) (h : ∀ j, sw_s0 i j = 0) : sw_ce c3 ad sw_rho sw_s0 i (101, n) = .inl (c3.2.1, n, .inl fun _ => 0) := by
  unfold sw_ce
  rw [if_neg (show ¬ (101 : Nat) = 100 by decide), if_pos rfl]
  simp only [h]
  rfl
theorem sw_w0_14 (c3 : sw_C3) (ad : Nat → Nat) : sw_ce c3 ad sw_rho sw_s0 14 (102, 4) = .inl (c3.2.2, 4, .inr (.inr (.inr (.inr (va_up (va_up (va_up (va_up (fun _ => none) 0 (some (ad 15))) 1 (some (ad 17))) 2 (some (ad 19))) 3 (some (ad 21))))))) := by
  unfold sw_ce
  rw [if_neg (show ¬ (102 : Nat) = 100 by decide), if_neg (show ¬ (102 : Nat) = 101 by decide), if_pos rfl]
  have e : (fun j => (sw_rho 14 j).map ad) = (va_up (va_up (va_up (va_up (fun _ => none) 0 (some (ad 15))) 1 (some (ad 17))) 2 (some (ad 19))) 3 (some (ad 21))) := funext fun j => by
    match j with
    | 0 => rfl
    | 1 => rfl
    | 2 => rfl
    | 3 => rfl
    | j + 4 => rfl
  rw [e]
theorem sw_w0_2 (c3 : sw_C3) (ad : Nat → Nat) : sw_ce c3 ad sw_rho sw_s0 2 (100, 401) = .inl (c3.1, 401, .inl sw_l10) := rfl
set_option maxRecDepth 100000 in
theorem sw_w0_0 (c3 : sw_C3) (ad : Nat → Nat) : sw_ce c3 ad sw_rho sw_s0 0 (7, 0) = .inr (7, [.ref (ad 1), .ref (ad 3), .ref (ad 5), .ref (ad 11), .ref (ad 12), .ref (ad 14), .ref (ad 23), .ref (ad 24), .int 0, .int 0, .ref (ad 25)]) := rfl
set_option maxRecDepth 100000 in
theorem sw_w0_1 (c3 : sw_C3) (ad : Nat → Nat) : sw_ce c3 ad sw_rho sw_s0 1 (3, 0) = .inr (3, [.int 100, .int 10, .int 2, .int 0, .ref (ad 2)]) := rfl
set_option maxRecDepth 100000 in
theorem sw_w0_3 (c3 : sw_C3) (ad : Nat → Nat) : sw_ce c3 ad sw_rho sw_s0 3 (1, 0) = .inr (1, [.ref (ad 1), .ref (ad 4), .int (-1), .int 0, .int 0]) := rfl
set_option maxRecDepth 100000 in
theorem sw_w0_5 (c3 : sw_C3) (ad : Nat → Nat) : sw_ce c3 ad sw_rho sw_s0 5 (6, 0) = .inr (6, [.ref (ad 1), .ref (ad 6), .ref (ad 8), .ref (ad 9), .ref (ad 10), .int 0, .int 0, .int 0, .int 0, .int 0, .int 0, .int 20, .int 3, .int 0, .int 0]) := rfl
set_option maxRecDepth 100000 in
theorem sw_w0_6 (c3 : sw_C3) (ad : Nat → Nat) : sw_ce c3 ad sw_rho sw_s0 6 (5, 0) = .inr (5, [.ref (ad 7), .int 0]) := rfl
set_option maxRecDepth 100000 in
theorem sw_w0_11 (c3 : sw_C3) (ad : Nat → Nat) : sw_ce c3 ad sw_rho sw_s0 11 (2, 0) = .inr (2, [.ref (ad 1), .int 0, .int 0, .int 0, .int 400]) := rfl
set_option maxRecDepth 100000 in
theorem sw_w0_12 (c3 : sw_C3) (ad : Nat → Nat) : sw_ce c3 ad sw_rho sw_s0 12 (0, 0) = .inr (0, [.ref (ad 13)]) := rfl
set_option maxRecDepth 100000 in
theorem sw_w0_15 (c3 : sw_C3) (ad : Nat → Nat) : sw_ce c3 ad sw_rho sw_s0 15 (4, 0) = .inr (4, [.ref (ad 16), .int 1, .int 0, .int 0]) := rfl
set_option maxRecDepth 100000 in
theorem sw_w0_17 (c3 : sw_C3) (ad : Nat → Nat) : sw_ce c3 ad sw_rho sw_s0 17 (4, 0) = .inr (4, [.ref (ad 18), .int 1, .int 0, .int 0]) := rfl
set_option maxRecDepth 100000 in
theorem sw_w0_19 (c3 : sw_C3) (ad : Nat → Nat) : sw_ce c3 ad sw_rho sw_s0 19 (4, 0) = .inr (4, [.ref (ad 20), .int 1, .int 0, .int 0]) := rfl
set_option maxRecDepth 100000 in
theorem sw_w0_21 (c3 : sw_C3) (ad : Nat → Nat) : sw_ce c3 ad sw_rho sw_s0 21 (4, 0) = .inr (4, [.ref (ad 22), .int 1, .int 0, .int 0]) := rfl
set_option maxRecDepth 100000 in
theorem sw_w0_26 (c3 : sw_C3) (ad : Nat → Nat) : sw_ce c3 ad sw_rho sw_s0 26 (8, 0) = .inr (8, [.int 100, .int 10, .int 2, .int 0, .ref (ad 27), .ref (ad 28), .ref (ad 29), .int 0, .ref (ad 30), .ref (ad 31), .int 0, .int 0, .int 0, .int 0, .ref (ad 32), .ref (ad 33), .int 20, .int 3, .int 0, .int 0, .int 0, .ref (ad 34), .int 0, .int 0, .ref (ad 35), .ref (ad 36), .ref (ad 37), .ref (ad 38), .ref (ad 39), .int 0, .int 0, .int 0, .int 400, .ref (ad 40), .ref (ad 41), .ref (ad 42), .ref (ad 43), .ref (ad 44), .ref (ad 45), .int 0]) := rfl
set_option maxRecDepth 100000 in
theorem sw_world0 (c3 : sw_C3) (ad : Nat → Nat) {D : va_G} {H : Heap} (hP : va_P D sw_cl [((ad 0), .inr (7, [.ref (ad 1), .ref (ad 3), .ref (ad 5), .ref (ad 11), .ref (ad 12), .ref (ad 14), .ref (ad 23), .ref (ad 24), .int 0, .int 0, .ref (ad 25)])), ((ad 1), .inr (3, [.int 100, .int 10, .int 2, .int 0, .ref (ad 2)])), ((ad 2), .inl (c3.1, 401, .inl sw_l10)), ((ad 3), .inr (1, [.ref (ad 1), .ref (ad 4), .int (-1), .int 0, .int 0])), ((ad 4), .inl (c3.1, 8421, .inl fun _ => 0)), ((ad 5), .inr (6, [.ref (ad 1), .ref (ad 6), .ref (ad 8), .ref (ad 9), .ref (ad 10), .int 0, .int 0, .int 0, .int 0, .int 0, .int 0, .int 20, .int 3, .int 0, .int 0])), ((ad 6), .inr (5, [.ref (ad 7), .int 0])), ((ad 7), .inl (c3.1, 120, .inl fun _ => 0)), ((ad 8), .inl (c3.2.1, 8, .inl fun _ => 0)), ((ad 9), .inl (c3.1, 3, .inl fun _ => 0)), ((ad 10), .inl (c3.1, 400, .inl fun _ => 0)), ((ad 11), .inr (2, [.ref (ad 1), .int 0, .int 0, .int 0, .int 400])), ((ad 12), .inr (0, [.ref (ad 13)])), ((ad 13), .inl (c3.1, 60, .inl fun _ => 0)), ((ad 14), .inl (c3.2.2, 4, .inr (.inr (.inr (.inr (va_up (va_up (va_up (va_up (fun _ => none) 0 (some (ad 15))) 1 (some (ad 17))) 2 (some (ad 19))) 3 (some (ad 21)))))))), ((ad 15), .inr (4, [.ref (ad 16), .int 1, .int 0, .int 0])), ((ad 16), .inl (c3.1, 60, .inl fun _ => 0)), ((ad 17), .inr (4, [.ref (ad 18), .int 1, .int 0, .int 0])), ((ad 18), .inl (c3.1, 60, .inl fun _ => 0)), ((ad 19), .inr (4, [.ref (ad 20), .int 1, .int 0, .int 0])), ((ad 20), .inl (c3.1, 60, .inl fun _ => 0)), ((ad 21), .inr (4, [.ref (ad 22), .int 1, .int 0, .int 0])), ((ad 22), .inl (c3.1, 60, .inl fun _ => 0)), ((ad 23), .inl (c3.1, 6, .inl fun _ => 0)), ((ad 24), .inl (c3.1, 6, .inl fun _ => 0)), ((ad 25), .inl (c3.1, 400, .inl fun _ => 0)), ((ad 26), .inr (8, [.int 100, .int 10, .int 2, .int 0, .ref (ad 27), .ref (ad 28), .ref (ad 29), .int 0, .ref (ad 30), .ref (ad 31), .int 0, .int 0, .int 0, .int 0, .ref (ad 32), .ref (ad 33), .int 20, .int 3, .int 0, .int 0, .int 0, .ref (ad 34), .int 0, .int 0, .ref (ad 35), .ref (ad 36), .ref (ad 37), .ref (ad 38), .ref (ad 39), .int 0, .int 0, .int 0, .int 400, .ref (ad 40), .ref (ad 41), .ref (ad 42), .ref (ad 43), .ref (ad 44), .ref (ad 45), .int 0])), ((ad 27), .inl (c3.1, 6, .inl fun _ => 0)), ((ad 28), .inl (c3.1, 6, .inl fun _ => 0)), ((ad 29), .inl (c3.1, 6, .inl fun _ => 0)), ((ad 30), .inl (c3.1, 6, .inl fun _ => 0)), ((ad 31), .inl (c3.1, 6, .inl fun _ => 0)), ((ad 32), .inl (c3.2.1, 8, .inl fun _ => 0)), ((ad 33), .inl (c3.1, 3, .inl fun _ => 0)), ((ad 34), .inl (c3.1, 600, .inl fun _ => 0)), ((ad 35), .inl (c3.1, 401, .inl fun _ => 0)), ((ad 36), .inl (c3.1, 16441, .inl fun _ => 0)), ((ad 37), .inl (c3.1, 16441, .inl fun _ => 0)), ((ad 38), .inl (c3.1, 600, .inl fun _ => 0)), ((ad 39), .inl (c3.1, 120, .inl fun _ => 0)), ((ad 40), .inl (c3.1, 60, .inl fun _ => 0)), ((ad 41), .inl (c3.2.1, 4, .inl fun _ => 0)), ((ad 42), .inl (c3.1, 4, .inl fun _ => 0)), ((ad 43), .inl (c3.1, 4, .inl fun _ => 0)), ((ad 44), .inl (c3.1, 240, .inl fun _ => 0)), ((ad 45), .inl (c3.1, 60, .inl fun _ => 0))] H) : va_P D sw_cl (sw_wl c3 ad sw_ly sw_rho sw_s0) H := by
  intro k x hk
  have hlt : k < 46 := by
    have h := (List.getElem?_eq_some_iff.mp hk).1
    rw [show (sw_wl c3 ad sw_ly sw_rho sw_s0).length = sw_ly.length from List.length_mapIdx] at h
    exact h
  rcases (by omega : k = 0 ∨ k = 1 ∨ k = 2 ∨ k = 3 ∨ k = 4 ∨ k = 5 ∨ k = 6 ∨ k = 7 ∨ k = 8 ∨ k = 9 ∨ k = 10 ∨ k = 11 ∨ k = 12 ∨ k = 13 ∨ k = 14 ∨ k = 15 ∨ k = 16 ∨ k = 17 ∨ k = 18 ∨ k = 19 ∨ k = 20 ∨ k = 21 ∨ k = 22 ∨ k = 23 ∨ k = 24 ∨ k = 25 ∨ k = 26 ∨ k = 27 ∨ k = 28 ∨ k = 29 ∨ k = 30 ∨ k = 31 ∨ k = 32 ∨ k = 33 ∨ k = 34 ∨ k = 35 ∨ k = 36 ∨ k = 37 ∨ k = 38 ∨ k = 39 ∨ k = 40 ∨ k = 41 ∨ k = 42 ∨ k = 43 ∨ k = 44 ∨ k = 45) with rfl | rfl | rfl | rfl | rfl | rfl | rfl | rfl | rfl | rfl | rfl | rfl | rfl | rfl | rfl | rfl | rfl | rfl | rfl | rfl | rfl | rfl | rfl | rfl | rfl | rfl | rfl | rfl | rfl | rfl | rfl | rfl | rfl | rfl | rfl | rfl | rfl | rfl | rfl | rfl | rfl | rfl | rfl | rfl | rfl | rfl
  · rw [sw_wl_at (k := (7, 0)) rfl, sw_w0_0 c3 ad] at hk; cases hk; exact hP 0 _ rfl
  · rw [sw_wl_at (k := (3, 0)) rfl, sw_w0_1 c3 ad] at hk; cases hk; exact hP 1 _ rfl
  · rw [sw_wl_at (k := (100, 401)) rfl, sw_w0_2 c3 ad] at hk; cases hk; exact hP 2 _ rfl
  · rw [sw_wl_at (k := (1, 0)) rfl, sw_w0_3 c3 ad] at hk; cases hk; exact hP 3 _ rfl
  · rw [sw_wl_at (k := (100, 8421)) rfl, sw_w0_i c3 ad 4 8421 (fun j => rfl)] at hk; cases hk; exact hP 4 _ rfl
  · rw [sw_wl_at (k := (6, 0)) rfl, sw_w0_5 c3 ad] at hk; cases hk; exact hP 5 _ rfl
  · rw [sw_wl_at (k := (5, 0)) rfl, sw_w0_6 c3 ad] at hk; cases hk; exact hP 6 _ rfl
  · rw [sw_wl_at (k := (100, 120)) rfl, sw_w0_i c3 ad 7 120 (fun j => rfl)] at hk; cases hk; exact hP 7 _ rfl
  · rw [sw_wl_at (k := (101, 8)) rfl, sw_w0_z c3 ad 8 8 (fun j => rfl)] at hk; cases hk; exact hP 8 _ rfl
  · rw [sw_wl_at (k := (100, 3)) rfl, sw_w0_i c3 ad 9 3 (fun j => rfl)] at hk; cases hk; exact hP 9 _ rfl
  · rw [sw_wl_at (k := (100, 400)) rfl, sw_w0_i c3 ad 10 400 (fun j => rfl)] at hk; cases hk; exact hP 10 _ rfl
  · rw [sw_wl_at (k := (2, 0)) rfl, sw_w0_11 c3 ad] at hk; cases hk; exact hP 11 _ rfl
  · rw [sw_wl_at (k := (0, 0)) rfl, sw_w0_12 c3 ad] at hk; cases hk; exact hP 12 _ rfl
  · rw [sw_wl_at (k := (100, 60)) rfl, sw_w0_i c3 ad 13 60 (fun j => rfl)] at hk; cases hk; exact hP 13 _ rfl
  · rw [sw_wl_at (k := (102, 4)) rfl, sw_w0_14 c3 ad] at hk; cases hk; exact hP 14 _ rfl
  · rw [sw_wl_at (k := (4, 0)) rfl, sw_w0_15 c3 ad] at hk; cases hk; exact hP 15 _ rfl
  · rw [sw_wl_at (k := (100, 60)) rfl, sw_w0_i c3 ad 16 60 (fun j => rfl)] at hk; cases hk; exact hP 16 _ rfl
  · rw [sw_wl_at (k := (4, 0)) rfl, sw_w0_17 c3 ad] at hk; cases hk; exact hP 17 _ rfl
  · rw [sw_wl_at (k := (100, 60)) rfl, sw_w0_i c3 ad 18 60 (fun j => rfl)] at hk; cases hk; exact hP 18 _ rfl
  · rw [sw_wl_at (k := (4, 0)) rfl, sw_w0_19 c3 ad] at hk; cases hk; exact hP 19 _ rfl
  · rw [sw_wl_at (k := (100, 60)) rfl, sw_w0_i c3 ad 20 60 (fun j => rfl)] at hk; cases hk; exact hP 20 _ rfl
  · rw [sw_wl_at (k := (4, 0)) rfl, sw_w0_21 c3 ad] at hk; cases hk; exact hP 21 _ rfl
  · rw [sw_wl_at (k := (100, 60)) rfl, sw_w0_i c3 ad 22 60 (fun j => rfl)] at hk; cases hk; exact hP 22 _ rfl
  · rw [sw_wl_at (k := (100, 6)) rfl, sw_w0_i c3 ad 23 6 (fun j => rfl)] at hk; cases hk; exact hP 23 _ rfl
  · rw [sw_wl_at (k := (100, 6)) rfl, sw_w0_i c3 ad 24 6 (fun j => rfl)] at hk; cases hk; exact hP 24 _ rfl
  · rw [sw_wl_at (k := (100, 400)) rfl, sw_w0_i c3 ad 25 400 (fun j => rfl)] at hk; cases hk; exact hP 25 _ rfl
  · rw [sw_wl_at (k := (8, 0)) rfl, sw_w0_26 c3 ad] at hk; cases hk; exact hP 26 _ rfl
  · rw [sw_wl_at (k := (100, 6)) rfl, sw_w0_i c3 ad 27 6 (fun j => rfl)] at hk; cases hk; exact hP 27 _ rfl
  · rw [sw_wl_at (k := (100, 6)) rfl, sw_w0_i c3 ad 28 6 (fun j => rfl)] at hk; cases hk; exact hP 28 _ rfl
  · rw [sw_wl_at (k := (100, 6)) rfl, sw_w0_i c3 ad 29 6 (fun j => rfl)] at hk; cases hk; exact hP 29 _ rfl
  · rw [sw_wl_at (k := (100, 6)) rfl, sw_w0_i c3 ad 30 6 (fun j => rfl)] at hk; cases hk; exact hP 30 _ rfl
  · rw [sw_wl_at (k := (100, 6)) rfl, sw_w0_i c3 ad 31 6 (fun j => rfl)] at hk; cases hk; exact hP 31 _ rfl
  · rw [sw_wl_at (k := (101, 8)) rfl, sw_w0_z c3 ad 32 8 (fun j => rfl)] at hk; cases hk; exact hP 32 _ rfl
  · rw [sw_wl_at (k := (100, 3)) rfl, sw_w0_i c3 ad 33 3 (fun j => rfl)] at hk; cases hk; exact hP 33 _ rfl
  · rw [sw_wl_at (k := (100, 600)) rfl, sw_w0_i c3 ad 34 600 (fun j => rfl)] at hk; cases hk; exact hP 34 _ rfl
  · rw [sw_wl_at (k := (100, 401)) rfl, sw_w0_i c3 ad 35 401 (fun j => rfl)] at hk; cases hk; exact hP 35 _ rfl
  · rw [sw_wl_at (k := (100, 16441)) rfl, sw_w0_i c3 ad 36 16441 (fun j => rfl)] at hk; cases hk; exact hP 36 _ rfl
  · rw [sw_wl_at (k := (100, 16441)) rfl, sw_w0_i c3 ad 37 16441 (fun j => rfl)] at hk; cases hk; exact hP 37 _ rfl
  · rw [sw_wl_at (k := (100, 600)) rfl, sw_w0_i c3 ad 38 600 (fun j => rfl)] at hk; cases hk; exact hP 38 _ rfl
  · rw [sw_wl_at (k := (100, 120)) rfl, sw_w0_i c3 ad 39 120 (fun j => rfl)] at hk; cases hk; exact hP 39 _ rfl
  · rw [sw_wl_at (k := (100, 60)) rfl, sw_w0_i c3 ad 40 60 (fun j => rfl)] at hk; cases hk; exact hP 40 _ rfl
  · rw [sw_wl_at (k := (101, 4)) rfl, sw_w0_z c3 ad 41 4 (fun j => rfl)] at hk; cases hk; exact hP 41 _ rfl
  · rw [sw_wl_at (k := (100, 4)) rfl, sw_w0_i c3 ad 42 4 (fun j => rfl)] at hk; cases hk; exact hP 42 _ rfl
  · rw [sw_wl_at (k := (100, 4)) rfl, sw_w0_i c3 ad 43 4 (fun j => rfl)] at hk; cases hk; exact hP 43 _ rfl
  · rw [sw_wl_at (k := (100, 240)) rfl, sw_w0_i c3 ad 44 240 (fun j => rfl)] at hk; cases hk; exact hP 44 _ rfl
  · rw [sw_wl_at (k := (100, 60)) rfl, sw_w0_i c3 ad 45 60 (fun j => rfl)] at hk; cases hk; exact hP 45 _ rfl
