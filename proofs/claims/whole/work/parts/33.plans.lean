/-! PLANS, as mathematics -/
section
variable {lim lim' : Nat → Int} {D V A q w : Int} {f : Nat → Int}
theorem sw_tk_lc (hl : ∀ j : Nat, (j : Int) ≤ D → lim j = lim' j) {p v : Int} (hp : 0 ≤ p ∧ p ≤ D) : sw_tk lim D V p v ↔ sw_tk lim' D V p v := by
  constructor
  · rintro ⟨h1, h2, h3, h4⟩
    exact ⟨h1, h2, h3, fun x hx => by have := h4 x hx; rw [hl x.toNat (by omega)] at this; exact this⟩
  · rintro ⟨h1, h2, h3, h4⟩
    exact ⟨h1, h2, h3, fun x hx => by have := h4 x hx; rw [← hl x.toNat (by omega)] at this; exact this⟩
theorem sw_R_lc (hw : w = 1 ∨ w = -1) (hl : ∀ j : Nat, (j : Int) ≤ D → lim j = lim' j) : ∀ (n : Nat) (d b : Int), (0 ≤ q - w * d ∧ q - w * d ≤ D) → sw_R lim D V A q w n d b → sw_R lim' D V A q w n d b
  | 0, d, b, _, h => h
  | n + 1, d, b, hp, h => by
    obtain ⟨s, h1, h2, h3, h4, h5, h6⟩ := h
    exact ⟨s, h1, h2, h3, h4, (sw_tk_lc hl hp).mp h5, sw_R_lc hw hl n _ _ (sw_t_pl hw h5) h6⟩
theorem sw_bs_lc (hw : w = 1 ∨ w = -1) (hl : ∀ j : Nat, (j : Int) ≤ D → lim j = lim' j) {n : Nat} {d b s : Int} (hp : 0 ≤ q - w * d ∧ q - w * d ≤ D) (h : sw_bs lim D V A q w n d b s) : sw_bs lim' D V A q w n d b s := by
  obtain ⟨h1, h2, h3, h4, h5, h6, h7⟩ := h
  have hl' : ∀ j : Nat, (j : Int) ≤ D → lim' j = lim j := fun j hj => (hl j hj).symm
  exact ⟨h1, h2, h3, h4, (sw_tk_lc hl hp).mp h5, sw_R_lc hw hl n _ _ (sw_t_pl hw h5) h6, fun t t1 t2 t3 t4 t5 => h7 t t1 t2 t3 ((sw_tk_lc hl hp).mpr t4) (sw_R_lc hw hl' n _ _ (sw_t_pl (lim := lim') hw t4) t5)⟩
theorem sw_gp_lc (hw : w = 1 ∨ w = -1) (hl : ∀ j : Nat, (j : Int) ≤ D → lim j = lim' j) {g : Nat → Int} : ∀ (n : Nat) (d b : Int) (k : Nat), (0 ≤ q - w * d ∧ q - w * d ≤ D) → sw_gp lim D V A q w n d b g k → sw_gp lim' D V A q w n d b g k
  | 0, _, _, _, _, _ => trivial
  | n + 1, d, b, k, hp, h => by
    obtain ⟨s, h1, h2, h3⟩ := h
    exact ⟨s, h1, sw_bs_lc hw hl hp h2, sw_gp_lc hw hl n _ _ _ (sw_t_pl hw h2.2.2.2.2.1) h3⟩
/-- a ride read backwards -/
theorem sw_R_rev (hw : w = 1 ∨ w = -1) {p D0 : Int} (hpq : p = q - w * D0) : ∀ (n m : Nat) (d b : Int), d ≤ D0 → 0 ≤ b → (0 ≤ q - w * d ∧ q - w * d ≤ D) → sw_R lim D V A q w n d b → (∀ x, 0 ≤ x → b - A ≤ x → x ≤ b + A → sw_R lim D V A p (-w) m (D0 - d) x) → sw_R lim D V A p (-w) (m + n) D0 0
  | 0, m, d, b, _, hb, _, h, k => by
    obtain ⟨h1, h2⟩ := h
    have := k 0 (by omega) (by omega) (by omega)
    rw [h1, show D0 - 0 = D0 by omega] at this
    exact this
  | n + 1, m, d, b, hd, hb, hp, h, k => by
    obtain ⟨s, h1, h2, h3, h4, h5, h6⟩ := h
    rw [show m + (n + 1) = m + 1 + n by omega]
    refine sw_R_rev hw hpq n (m + 1) (d - s) s (by omega) (by omega) (sw_t_pl hw h5) h6 (fun x x0 x1 x2 => ?_)
    refine ⟨s, h1, by omega, by omega, by omega, ?_, ?_⟩
    · have h5' := (sw_t_iff hw h1).mp h5
      refine (sw_t_iff (lim := lim) (D := D) (V := V) (q := p) (w := -w) (by omega) h1).mpr ⟨h5'.1, ?_, ?_, fun c c1 c2 => ?_⟩
      · rw [hpq]; rcases hw with rfl | rfl <;> omega
      · rw [hpq]; rcases hw with rfl | rfl <;> omega
      · have := h5'.2.2.2 (D0 - c) (by omega) (by omega)
        rw [show p - -w * c = q - w * (D0 - c) by rw [hpq]; rcases hw with rfl | rfl <;> omega]
        exact this
    · rw [show D0 - (d - s) - s = D0 - d by omega]
      exact k s (by omega) (by omega) (by omega)
theorem sw_R_back (hw : w = 1 ∨ w = -1) (hA : 0 ≤ A) {p D0 : Int} (hpq : p = q - w * D0) (hp : 0 ≤ p ∧ p ≤ D) {n : Nat} (h : sw_R lim D V A q w n D0 0) : sw_R lim D V A p (-w) n D0 0 := by
  have := sw_R_rev hw hpq n 0 D0 0 (by omega) (by omega) (by rw [← hpq]; exact hp) h (fun x x0 x1 x2 => ⟨by omega, by omega⟩)
  rw [Nat.zero_add] at this
  exact this
theorem sw_Nr_G (hw : w = 1 ∨ w = -1) : ∀ (n : Nat) (d s : Int), sw_Nr lim D V A q n (q - w * d) (w * s) ↔ ∃ k, sw_G lim D V A q w n k d s
  | 0, d, s => by
    constructor
    · rintro ⟨h1, h2, h3⟩
      exact ⟨0, rfl, by rcases hw with rfl | rfl <;> omega, by rcases hw with rfl | rfl <;> omega, by rcases hw with rfl | rfl <;> omega⟩
    · rintro ⟨k, h1, h2, h3, h4⟩
      exact ⟨by rw [h2]; omega, by rcases hw with rfl | rfl <;> omega, by rcases hw with rfl | rfl <;> omega⟩
  | n + 1, d, s => by
    have ih := fun u : Int => sw_Nr_G hw n (d - u) u
    constructor
    · rintro ⟨x, h1, h2, h3, h4⟩
      have ex : x = w * (w * x) := by rcases hw with rfl | rfl <;> omega
      have ep : q - w * d + x = q - w * (d - w * x) := by rcases hw with rfl | rfl <;> omega
      rw [ep] at h4
      have h4' : sw_Nr lim D V A q n (q - w * (d - w * x)) (w * (w * x)) := by rw [← ex]; exact h4
      obtain ⟨k, hk⟩ := (ih (w * x)).mp h4'
      have h3' : sw_t lim D V q w d (w * x) := by show sw_tk lim D V (q - w * d) (w * (w * x)); rw [← ex]; exact h3
      by_cases z : 1 ≤ w * x
      · exact ⟨k + 1, w * x, by rcases hw with rfl | rfl <;> omega, by rcases hw with rfl | rfl <;> omega, h3', Or.inl ⟨z, k, rfl, hk⟩⟩
      · exact ⟨k, w * x, by rcases hw with rfl | rfl <;> omega, by rcases hw with rfl | rfl <;> omega, h3', Or.inr ⟨by omega, hk⟩⟩
    · rintro ⟨k, u, h1, h2, h3, h4⟩
      have h5 : ∃ k, sw_G lim D V A q w n k (d - u) u := by
        rcases h4 with ⟨-, k', -, h⟩ | ⟨-, h⟩
        · exact ⟨k', h⟩
        · exact ⟨k, h⟩
      refine ⟨w * u, by rcases hw with rfl | rfl <;> omega, by rcases hw with rfl | rfl <;> omega, h3, ?_⟩
      rw [show q - w * d + w * u = q - w * (d - u) by rcases hw with rfl | rfl <;> omega]
      exact (ih u).mpr h5
theorem sw_G_R : ∀ (n : Nat) (d b : Int), sw_G lim D V A q w n n d b → sw_R lim D V A q w n d b
  | 0, d, b, h => ⟨h.2.1, h.2.2.2⟩
  | n + 1, d, b, h => by
    obtain ⟨u, h1, h2, h3, ⟨h4, k', h5, h6⟩ | ⟨h4, h6⟩⟩ := h
    · have e : k' = n := by omega
      subst e
      have hr := sw_G_R k' _ _ h6
      have := sw_R_le _ _ _ hr
      exact ⟨u, h4, by omega, by omega, by omega, h3, hr⟩
    · have := sw_G_le _ _ _ _ h6
      omega
theorem sw_R_G (hA : 0 ≤ A) : ∀ (n : Nat) (d b : Int), 0 ≤ b → sw_R lim D V A q w n d b → sw_G lim D V A q w n n d b
  | 0, d, b, hb, h => ⟨rfl, h.1, by omega, h.2⟩
  | n + 1, d, b, hb, h => by
    obtain ⟨s, h1, h2, h3, h4, h5, h6⟩ := h
    exact ⟨s, by omega, by omega, h5, Or.inl ⟨h1, n, rfl, sw_R_G hA n _ _ (by omega) h6⟩⟩
/-- on the way: n ticks are left, all the rides of so many go toward the end -/
def sw_PI (lim : Nat → Int) (D V A q w : Int) (n : Nat) (d b : Int) : Prop := 0 ≤ d ∧ (0 ≤ b ∧ b ≤ V) ∧ (0 ≤ q - w * d ∧ q - w * d ≤ D) ∧ sw_R lim D V A q w n d b ∧ (∀ m : Nat, m < n → ¬ sw_Nr lim D V A q m (q - w * d) (w * b)) ∧ ∀ k, sw_G lim D V A q w n k d b → k = n
theorem sw_vd_of (hw : w = 1 ∨ w = -1) {d b : Int} (hb : 0 ≤ b ∧ b ≤ V) (hp : 0 ≤ q - w * d ∧ q - w * d ≤ D) : sw_vd D V (q - w * d) (w * b) := ⟨hp, by rcases hw with rfl | rfl <;> omega⟩
theorem sw_PI_f (hw : w = 1 ∨ w = -1) (hA : 1 ≤ A) (F : sw_LF lim D V A q f) {n : Nat} {d b : Int} (I : sw_PI lim D V A q w n d b) : f (sw_cd (q - w * d) (w * b)) = n := by
  obtain ⟨i1, i2, i3, i4, i5, i6⟩ := I
  have hN : sw_Nr lim D V A q n (q - w * d) (w * b) := (sw_Nr_G hw n d b).mpr ⟨n, sw_R_G (by omega) n d b i2.1 i4⟩
  rcases F _ _ (sw_vd_of hw i2 i3) with ⟨z1, z2⟩ | ⟨z1, z2, z3, z4⟩
  · exact absurd hN (z2 n)
  · rcases Int.lt_trichotomy (f (sw_cd (q - w * d) (w * b))) n with y | y | y
    · exact absurd z3 (i5 _ (by omega))
    · exact y
    · exact absurd hN (z4 n y)
theorem sw_PI_0 (hw : w = 1 ∨ w = -1) (hA : 1 ≤ A) (hV : 1 ≤ V) (hL : ∀ x : Int, 0 ≤ x → x ≤ D → 1 ≤ lim x.toNat) (hq : 0 ≤ q ∧ q ≤ D) {d : Int} (hd : 0 ≤ d) (hp : 0 ≤ q - w * d ∧ q - w * d ≤ D) (F : sw_LF lim D V A q f) : ∃ n : Nat, (n : Int) ≤ d ∧ sw_PI lim D V A q w n d 0 ∧ ∀ m : Nat, m < n → ¬ sw_R lim D V A q w m d 0 := by
  have e0 : w * 0 = 0 := by omega
  have toN : ∀ m, sw_R lim D V A q w m d 0 → sw_Nr lim D V A q m (q - w * d) 0 := fun m hm => by
    have := (sw_Nr_G hw m d 0).mpr ⟨m, sw_R_G (by omega) m d 0 (by omega) hm⟩
    rw [e0] at this; exact this
  have one := sw_R_one hw hV hA hL hq d.toNat 0 (by omega) (by omega) (by rw [show ((d.toNat : Nat) : Int) = d by omega]; exact hp)
  rw [show ((d.toNat : Nat) : Int) = d by omega] at one
  have hv : sw_vd D V (q - w * d) 0 := ⟨hp, by omega⟩
  rcases F _ _ hv with ⟨z1, z2⟩ | ⟨z1, z2, z3, z4⟩
  · exact absurd (toN _ one) (z2 _)
  · generalize f (sw_cd (q - w * d) 0) = L at z1 z2 z3 z4
    have key : ∀ k, sw_G lim D V A q w L.toNat k d 0 → k = L.toNat ∧ sw_R lim D V A q w L.toNat d 0 := fun k hk => by
      obtain ⟨m, m1, m2⟩ := (sw_G_main hw hA L.toNat k d 0 hp hk).1 (by omega) hd
      have hk2 := sw_G_le _ _ _ _ hk
      have hr := (sw_Q_R m d 0).mp m2
      have : ¬ (m : Int) < L := fun y => z4 m y (toN m hr)
      have e : m = L.toNat := by omega
      rw [e] at hr
      exact ⟨by omega, hr⟩
    obtain ⟨k, hk⟩ := (sw_Nr_G (A := A) hw L.toNat d 0).mp (by rw [e0]; exact z3)
    have hr := (key k hk).2
    refine ⟨L.toNat, ?_, ⟨hd, by omega, hp, hr, fun m hm => ?_, fun k hk => (key k hk).1⟩, fun m hm hr2 => z4 m (by omega) (toN m hr2)⟩
    · exact sw_R_le _ _ _ hr
    · rw [e0]; exact z4 m (by omega)
theorem sw_PI_goes (hw : w = 1 ∨ w = -1) (hA : 1 ≤ A) (F : sw_LF lim D V A q f) {n : Nat} {d b u : Int} (I : sw_PI lim D V A q w (n + 1) d b) : (((-A ≤ w * u - w * b ∧ w * u - w * b ≤ A) ∧ sw_tk lim D V (q - w * d) (w * u) ∧ f (sw_cd (q - w * d + w * u) (w * u)) = (n : Int)) ↔ (1 ≤ u ∧ u ≤ d ∧ b - A ≤ u ∧ u ≤ b + A ∧ sw_tk lim D V (q - w * d) (w * u) ∧ sw_R lim D V A q w n (d - u) u)) := by
  obtain ⟨i1, i2, i3, i4, i5, i6⟩ := I
  have ep : q - w * d + w * u = q - w * (d - u) := by rcases hw with rfl | rfl <;> omega
  constructor
  · rintro ⟨h1, h2, h3⟩
    have hv : sw_vd D V (q - w * d + w * u) (w * u) := ⟨⟨h2.2.1, h2.2.2.1⟩, sw_abs_le h2.1⟩
    have hN : sw_Nr lim D V A q n (q - w * (d - u)) (w * u) := by
      rcases F _ _ hv with ⟨z1, z2⟩ | ⟨z1, z2, z3, z4⟩
      · omega
      · rw [h3] at z3
        rw [← ep]; exact z3
    obtain ⟨k, hk⟩ := (sw_Nr_G hw n (d - u) u).mp hN
    have hkn := sw_G_le _ _ _ _ hk
    by_cases z : 1 ≤ u
    · have := i6 (k + 1) ⟨u, by rcases hw with rfl | rfl <;> omega, by rcases hw with rfl | rfl <;> omega, h2, Or.inl ⟨z, k, rfl, hk⟩⟩
      have e : k = n := by omega
      subst e
      have hr := sw_G_R k _ _ hk
      have := sw_R_le _ _ _ hr
      exact ⟨z, by omega, by rcases hw with rfl | rfl <;> omega, by rcases hw with rfl | rfl <;> omega, h2, hr⟩
    · have := i6 k ⟨u, by rcases hw with rfl | rfl <;> omega, by rcases hw with rfl | rfl <;> omega, h2, Or.inr ⟨by omega, hk⟩⟩
      omega
  · rintro ⟨h1, h2, h3, h4, h5, h6⟩
    refine ⟨by rcases hw with rfl | rfl <;> omega, h5, ?_⟩
    have hv : sw_vd D V (q - w * d + w * u) (w * u) := ⟨⟨h5.2.1, h5.2.2.1⟩, sw_abs_le h5.1⟩
    have hN : sw_Nr lim D V A q n (q - w * d + w * u) (w * u) := by
      rw [ep]; exact (sw_Nr_G hw n (d - u) u).mpr ⟨n, sw_R_G (by omega) n _ _ (by omega) h6⟩
    rcases F _ _ hv with ⟨z1, z2⟩ | ⟨z1, z2, z3, z4⟩
    · exact absurd hN (z2 n)
    · rcases Int.lt_trichotomy (f (sw_cd (q - w * d + w * u) (w * u))) n with y | y | y
      · refine absurd ?_ (i5 ((f (sw_cd (q - w * d + w * u) (w * u))).toNat + 1) (by omega))
        exact ⟨w * u, by rcases hw with rfl | rfl <;> omega, by rcases hw with rfl | rfl <;> omega, h5, z3⟩
      · exact y
      · exact absurd hN (z4 n y)
theorem sw_PI_s (hw : w = 1 ∨ w = -1) {n : Nat} {d b u : Int} (I : sw_PI lim D V A q w (n + 1) d b) (h : 1 ≤ u ∧ u ≤ d ∧ b - A ≤ u ∧ u ≤ b + A ∧ sw_tk lim D V (q - w * d) (w * u) ∧ sw_R lim D V A q w n (d - u) u) : sw_PI lim D V A q w n (d - u) u := by
  obtain ⟨i1, i2, i3, i4, i5, i6⟩ := I
  obtain ⟨h1, h2, h3, h4, h5, h6⟩ := h
  have hu := sw_abs_le h5.1
  refine ⟨by omega, by rcases hw with rfl | rfl <;> omega, sw_t_pl hw h5, h6, fun m hm hN => i5 (m + 1) (by omega) ⟨w * u, by rcases hw with rfl | rfl <;> omega, by rcases hw with rfl | rfl <;> omega, h5, ?_⟩, fun k hk => ?_⟩
  · rw [show q - w * d + w * u = q - w * (d - u) by rcases hw with rfl | rfl <;> omega]; exact hN
  · have := i6 (k + 1) ⟨u, by omega, by omega, h5, Or.inl ⟨h1, k, rfl, hk⟩⟩
    omega
end
