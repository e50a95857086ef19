/-! RIDES OF BOTH WAYS, and what the reference's search finds of them -/
/-- rides of n ticks that end at q, from p behind a tick of speed s -/
def sw_Nr (lim : Nat → Int) (D V A q : Int) : Nat → Int → Int → Prop
  | 0, p, s => p = q ∧ -A ≤ s ∧ s ≤ A
  | n + 1, p, s => ∃ u, -A ≤ u - s ∧ u - s ≤ A ∧ sw_tk lim D V p u ∧ sw_Nr lim D V A q n (p + u) u
def sw_cd (p s : Int) : Nat := (41 * p + s + 20).toNat
def sw_vd (D V p s : Int) : Prop := (0 ≤ p ∧ p ≤ D) ∧ (-V ≤ s ∧ s ≤ V)
/-- what has been found among the first n -/
def sw_cn (f : Nat → Int) : Nat → Nat
  | 0 => 0
  | n + 1 => sw_cn f n + (if f n = -1 then 0 else 1)
theorem sw_cn_le (f : Nat → Int) : ∀ n, sw_cn f n ≤ n
  | 0 => Nat.le_refl 0
  | n + 1 => by have := sw_cn_le f n; unfold sw_cn; split <;> omega
theorem sw_cn_up {f f' : Nat → Int} {k : Nat} {x : Int} (hf : ∀ j, f' j = if j = k then x else f j) (hk : f k = -1) (hx : 0 ≤ x) : ∀ n, sw_cn f' n = sw_cn f n + (if k < n then 1 else 0)
  | 0 => by simp [sw_cn]
  | n + 1 => by
    have ih := sw_cn_up hf hk hx n
    have hn := hf n
    simp only [sw_cn]
    by_cases e : n = k
    · rw [if_pos e] at hn
      subst e
      rw [ih, hn, hk, if_neg (by omega), if_neg (by omega), if_pos rfl, if_pos (by omega)]
    · rw [if_neg e] at hn
      rw [ih, hn]
      by_cases e2 : k < n
      · rw [if_pos e2, if_pos (show k < n + 1 by omega)]; omega
      · rw [if_neg e2, if_neg (show ¬ k < n + 1 by omega)]; rfl
theorem sw_cn_0 {f : Nat → Int} : ∀ n, (∀ j, j < n → f j = -1) → sw_cn f n = 0
  | 0, _ => rfl
  | n + 1, h => by simp only [sw_cn]; rw [sw_cn_0 n (fun j hj => h j (by omega)), h n (by omega), if_pos rfl]
/-- how far the search has come: h have been looked at, t found; f says how many ticks are left, g in which order they were found -/
abbrev sw_BF (lim : Nat → Int) (D V A q v0 : Int) (f g : Nat → Int) (h t : Nat) : Prop :=
  (∀ i : Nat, i < t → ∃ p s, sw_vd D V p s ∧ g i = 41 * p + s + 20 ∧ 0 ≤ f (sw_cd p s) ∧ f (sw_cd p s) ≤ i) ∧
  (∀ i j : Nat, i ≤ j → j < t → f (g i).toNat ≤ f (g j).toNat) ∧
  (∀ i : Nat, i < t → h < t → f (g i).toNat ≤ f (g h).toNat + 1) ∧
  (∀ p s, sw_vd D V p s → f (sw_cd p s) = -1 ∨ (0 ≤ f (sw_cd p s) ∧ ∃ i : Nat, i < t ∧ g i = 41 * p + s + 20)) ∧
  (∀ p s, sw_vd D V p s → 0 ≤ f (sw_cd p s) → sw_Nr lim D V A q (f (sw_cd p s)).toNat p s) ∧
  (∀ i : Nat, i < h → ∀ p u s, g i = 41 * (p + u) + u + 20 → sw_vd D V (p + u) u → sw_vd D V p s → sw_tk lim D V p u → -A ≤ u - s → u - s ≤ A → 0 ≤ f (sw_cd p s) ∧ f (sw_cd p s) ≤ f (g i).toNat + 1) ∧
  (t = sw_cn f (41 * (D + 1)).toNat) ∧
  (h ≤ t) ∧
  (∀ s, -A ≤ s → s < v0 → sw_vd D V q s → f (sw_cd q s) = 0)
theorem sw_BF.a1 {lim : Nat → Int} {D V A q v0 : Int} {f g : Nat → Int} {h t : Nat} (B : sw_BF lim D V A q v0 f g h t) : ∀ i : Nat, i < t → ∃ p s, sw_vd D V p s ∧ g i = 41 * p + s + 20 ∧ 0 ≤ f (sw_cd p s) ∧ f (sw_cd p s) ≤ i := B.1
theorem sw_BF.a2 {lim : Nat → Int} {D V A q v0 : Int} {f g : Nat → Int} {h t : Nat} (B : sw_BF lim D V A q v0 f g h t) : ∀ i j : Nat, i ≤ j → j < t → f (g i).toNat ≤ f (g j).toNat := B.2.1
theorem sw_BF.a3 {lim : Nat → Int} {D V A q v0 : Int} {f g : Nat → Int} {h t : Nat} (B : sw_BF lim D V A q v0 f g h t) : ∀ i : Nat, i < t → h < t → f (g i).toNat ≤ f (g h).toNat + 1 := B.2.2.1
theorem sw_BF.a4 {lim : Nat → Int} {D V A q v0 : Int} {f g : Nat → Int} {h t : Nat} (B : sw_BF lim D V A q v0 f g h t) : ∀ p s, sw_vd D V p s → f (sw_cd p s) = -1 ∨ (0 ≤ f (sw_cd p s) ∧ ∃ i : Nat, i < t ∧ g i = 41 * p + s + 20) := B.2.2.2.1
theorem sw_BF.a5 {lim : Nat → Int} {D V A q v0 : Int} {f g : Nat → Int} {h t : Nat} (B : sw_BF lim D V A q v0 f g h t) : ∀ p s, sw_vd D V p s → 0 ≤ f (sw_cd p s) → sw_Nr lim D V A q (f (sw_cd p s)).toNat p s := B.2.2.2.2.1
theorem sw_BF.a6 {lim : Nat → Int} {D V A q v0 : Int} {f g : Nat → Int} {h t : Nat} (B : sw_BF lim D V A q v0 f g h t) : ∀ i : Nat, i < h → ∀ p u s, g i = 41 * (p + u) + u + 20 → sw_vd D V (p + u) u → sw_vd D V p s → sw_tk lim D V p u → -A ≤ u - s → u - s ≤ A → 0 ≤ f (sw_cd p s) ∧ f (sw_cd p s) ≤ f (g i).toNat + 1 := B.2.2.2.2.2.1
theorem sw_BF.a7 {lim : Nat → Int} {D V A q v0 : Int} {f g : Nat → Int} {h t : Nat} (B : sw_BF lim D V A q v0 f g h t) : t = sw_cn f (41 * (D + 1)).toNat := B.2.2.2.2.2.2.1
theorem sw_BF.a8 {lim : Nat → Int} {D V A q v0 : Int} {f g : Nat → Int} {h t : Nat} (B : sw_BF lim D V A q v0 f g h t) : h ≤ t := B.2.2.2.2.2.2.2.1
theorem sw_BF.a9 {lim : Nat → Int} {D V A q v0 : Int} {f g : Nat → Int} {h t : Nat} (B : sw_BF lim D V A q v0 f g h t) : ∀ s, -A ≤ s → s < v0 → sw_vd D V q s → f (sw_cd q s) = 0 := B.2.2.2.2.2.2.2.2
section
variable {lim : Nat → Int} {D V A q v0 : Int} {f g f' g' : Nat → Int} {h t : Nat}
theorem sw_cd_lt (hD : 0 ≤ D) (hV : V ≤ 20) {p s : Int} (hv : sw_vd D V p s) : sw_cd p s < (41 * (D + 1)).toNat := by
  unfold sw_vd at hv; unfold sw_cd; omega
theorem sw_cd_inj (hV : V ≤ 20) {p s p' s' : Int} (hv : sw_vd D V p s) (hv' : sw_vd D V p' s') (e : sw_cd p s = sw_cd p' s') : p = p' ∧ s = s' := by
  unfold sw_vd at hv hv'; unfold sw_cd at e; omega
theorem sw_BF_len (hD : 0 ≤ D) (hV : V ≤ 20) (B : sw_BF lim D V A q v0 f g h t) {p s : Int} (hv : sw_vd D V p s) (hk : f (sw_cd p s) = -1) : (t : Int) < 41 * (D + 1) := by
  have h1 := sw_cn_up (f := f) (f' := fun j => if j = sw_cd p s then 0 else f j) (fun j => rfl) hk (by omega) (41 * (D + 1)).toNat
  have h2 := sw_cn_le (fun j => if j = sw_cd p s then 0 else f j) (41 * (D + 1)).toNat
  have h3 := sw_cd_lt hD hV hv
  rw [if_pos h3] at h1
  have := B.a7
  omega
theorem sw_BF_put (hD : 0 ≤ D) (hV : V ≤ 20) (B : sw_BF lim D V A q v0 f g h t) {p s x : Int} (hv : sw_vd D V p s) (hk : f (sw_cd p s) = -1) (hx : 0 ≤ x) (hxt : x ≤ t) (hmax : ∀ i, i < t → f (g i).toNat ≤ x) (hN : sw_Nr lim D V A q x.toNat p s) (h3 : h < t → x ≤ f (g h).toNat + 1) (hf : ∀ j, f' j = if j = sw_cd p s then x else f j) (hg : ∀ j, g' j = if j = t then 41 * p + s + 20 else g j) : sw_BF lim D V A q v0 f' g' h (t + 1) := by
  have fs : f' (sw_cd p s) = x := by rw [hf, if_pos rfl]
  have fk : ∀ c, 0 ≤ f c → f' c = f c := fun c hc => by rw [hf, if_neg (by intro e; rw [e, hk] at hc; omega)]
  have fo : ∀ p' s', sw_vd D V p' s' → (p' ≠ p ∨ s' ≠ s) → f' (sw_cd p' s') = f (sw_cd p' s') := fun p' s' hv' hne => by
    rw [hf, if_neg (by intro e; have := sw_cd_inj hV hv' hv e; omega)]
  have go : ∀ i, i < t → g' i = g i := fun i hi => by rw [hg, if_neg (by omega)]
  have gt : g' t = 41 * p + s + 20 := by rw [hg, if_pos rfl]
  have fg : ∀ i, i < t → f' (g' i).toNat = f (g i).toNat := fun i hi => by
    obtain ⟨p', s', b1, b2, b3, b4⟩ := B.a1 i hi
    rw [go i hi]
    refine fk _ ?_
    rw [b2]; exact b3
  have ft : f' (g' t).toNat = x := by rw [gt]; exact fs
  refine ⟨fun i hi => ?_, fun i j hij hj => ?_, fun i hi hh => ?_, fun p' s' hv' => ?_, fun p' s' hv' h0 => ?_, fun i hi p' u s' e1 e2 e3 e4 e5 e6 => ?_, ?_, ?_, fun s' b1 b2 b3 => ?_⟩
  · rcases Nat.lt_or_ge i t with z | z
    · obtain ⟨p', s', b1, b2, b3, b4⟩ := B.a1 i z
      exact ⟨p', s', b1, by rw [go i z]; exact b2, by rw [fk _ b3]; exact b3, by rw [fk _ b3]; exact b4⟩
    · have e : i = t := by omega
      subst e
      exact ⟨p, s, hv, gt, by rw [fs]; exact hx, by rw [fs]; exact hxt⟩
  · rcases Nat.lt_or_ge j t with z | z
    · rw [fg i (by omega), fg j z]; exact B.a2 i j hij z
    · have e : j = t := by omega
      subst e
      rw [ft]
      rcases Nat.lt_or_ge i j with y | y
      · rw [fg i y]; exact hmax i y
      · have e : i = j := by omega
        subst e
        rw [ft]; exact Int.le_refl _
  · have hxx : f' (g' i).toNat ≤ x := by
      rcases Nat.lt_or_ge i t with z | z
      · rw [fg i z]; exact hmax i z
      · have e : i = t := by omega
        subst e
        rw [ft]; exact Int.le_refl _
    rcases Nat.lt_or_ge h t with y | y
    · rw [fg h y]; have := h3 y; omega
    · have e : h = t := by omega
      rw [e, ft]; omega
  · by_cases e : p' = p ∧ s' = s
    · rw [e.1, e.2]
      exact Or.inr ⟨by rw [fs]; exact hx, t, by omega, gt⟩
    · rw [fo p' s' hv' (by omega)]
      rcases B.a4 p' s' hv' with z | ⟨z, i, i1, i2⟩
      · exact Or.inl z
      · exact Or.inr ⟨z, i, by omega, by rw [go i i1]; exact i2⟩
  · by_cases e : p' = p ∧ s' = s
    · rw [e.1, e.2, fs]; exact hN
    · rw [fo p' s' hv' (by omega)] at h0 ⊢
      exact B.a5 p' s' hv' h0
  · have hit : i < t := by have := B.a8; omega
    rw [go i hit] at e1
    have := B.a6 i hi p' u s' e1 e2 e3 e4 e5 e6
    rw [fg i hit, fk _ this.1]
    exact this
  · rw [sw_cn_up hf hk hx, if_pos (sw_cd_lt hD hV hv), ← B.a7]
  · have := B.a8; omega
  · have := B.a9 s' b1 b2 b3
    rw [fk _ (by omega)]; exact this
theorem sw_BF_next (B : sw_BF lim D V A q v0 f g h t) (hh : h < t) (hx : ∀ p u s, g h = 41 * (p + u) + u + 20 → sw_vd D V (p + u) u → sw_vd D V p s → sw_tk lim D V p u → -A ≤ u - s → u - s ≤ A → 0 ≤ f (sw_cd p s) ∧ f (sw_cd p s) ≤ f (g h).toNat + 1) : sw_BF lim D V A q v0 f g (h + 1) t := by
  refine ⟨B.a1, B.a2, fun i hi h1 => ?_, B.a4, B.a5, fun i hi => ?_, B.a7, by omega, B.a9⟩
  · have z1 := B.a3 i hi hh
    have z2 := B.a2 h (h + 1) (by omega) h1
    omega
  · rcases Nat.lt_or_ge i h with y | y
    · exact B.a6 i y
    · have e : i = h := by omega
      subst e
      exact hx
/-- what the search has found when it ends -/
def sw_LF (lim : Nat → Int) (D V A q : Int) (f : Nat → Int) : Prop := ∀ p s, sw_vd D V p s → (f (sw_cd p s) = -1 ∧ ∀ n, ¬ sw_Nr lim D V A q n p s) ∨ (0 ≤ f (sw_cd p s) ∧ f (sw_cd p s) ≤ 16441 ∧ sw_Nr lim D V A q (f (sw_cd p s)).toNat p s ∧ ∀ m : Nat, (m : Int) < f (sw_cd p s) → ¬ sw_Nr lim D V A q m p s)
theorem sw_abs_le {v V : Int} (h : sw_abs v ≤ V) : -V ≤ v ∧ v ≤ V := by unfold sw_abs at h; split at h <;> omega
theorem sw_BF_end (hD : 0 ≤ D ∧ D ≤ 400) (hV : V ≤ 20) (hv0 : v0 = A + 1) (hq : 0 ≤ q ∧ q ≤ D) (B : sw_BF lim D V A q v0 f g t t) : sw_LF lim D V A q f := by
  have key : ∀ n p s, sw_vd D V p s → sw_Nr lim D V A q n p s → 0 ≤ f (sw_cd p s) ∧ f (sw_cd p s) ≤ (n : Int) := by
    intro n
    induction n with
    | zero =>
      rintro p s hv ⟨rfl, n2, n3⟩
      have := B.a9 s n2 (by omega) hv
      omega
    | succ n ih =>
      rintro p s hv ⟨u, u1, u2, u3, u4⟩
      have hvu : sw_vd D V (p + u) u := ⟨⟨u3.2.1, u3.2.2.1⟩, sw_abs_le u3.1⟩
      have hi := ih (p + u) u hvu u4
      rcases B.a4 (p + u) u hvu with z | ⟨z, i, i1, i2⟩
      · omega
      · have := B.a6 i i1 p u s i2 hvu hv u3 u1 u2
        rw [i2] at this
        have e : f (sw_cd (p + u) u) = f (41 * (p + u) + u + 20).toNat := rfl
        omega
  intro p s hv
  rcases B.a4 p s hv with z | ⟨z, i, i1, i2⟩
  · refine Or.inl ⟨z, fun n hn => ?_⟩
    have := (key n p s hv hn).1
    omega
  · refine Or.inr ⟨z, ?_, B.a5 p s hv z, fun m hm hn => ?_⟩
    · obtain ⟨p', s', b1, b2, b3, b4⟩ := B.a1 i i1
      have e : sw_cd p s = sw_cd p' s' := by unfold sw_cd; rw [← i2, ← b2]
      have hl := sw_cn_le f (41 * (D + 1)).toNat
      have := B.a7
      rw [e]; omega
    · have := (key m p s hv hn).2
      omega
theorem sw_BF_0 (hD : 0 ≤ D) (hV : V ≤ 20) (hf : ∀ j, j < (41 * (D + 1)).toNat → f j = -1) : sw_BF lim D V A q (-A) f g 0 0 := by
  refine ⟨fun i hi => by omega, fun i j _ hj => by omega, fun i hi => by omega, fun p s hv => Or.inl (hf _ (sw_cd_lt hD hV hv)), fun p s hv h0 => ?_, fun i hi => by omega, (sw_cn_0 _ hf).symm, Nat.le_refl 0, fun s b1 b2 => by omega⟩
  have := hf _ (sw_cd_lt hD hV hv)
  omega

/-- the search looks at the tick by speed v that ends where h is; the speeds before it below ws are done -/
def sw_BI (lim : Nat → Int) (D V A q : Int) (f g : Nat → Int) (h t : Nat) (fr v ws : Int) : Prop := sw_BF lim D V A q (A + 1) f g h t ∧ h < t ∧ g h = 41 * (fr + v) + v + 20 ∧ sw_vd D V (fr + v) v ∧ (0 ≤ fr ∧ fr ≤ D) ∧ sw_tk lim D V fr v ∧ (∀ s, v - A ≤ s → s < ws → sw_vd D V fr s → 0 ≤ f (sw_cd fr s) ∧ f (sw_cd fr s) ≤ f (g h).toNat + 1)
variable {fr v ws : Int}
theorem sw_BI_skip (I : sw_BI lim D V A q f g h t fr v ws) (hs : ¬ (-V ≤ ws ∧ ws ≤ V)) : sw_BI lim D V A q f g h t fr v (ws + 1) := by
  obtain ⟨i1, i2, i3, i4, i5, i6, i7⟩ := I
  refine ⟨i1, i2, i3, i4, i5, i6, fun s s1 s2 s3 => i7 s s1 ?_ s3⟩
  have := s3.2
  rcases Int.lt_or_le s ws with z | z
  · exact z
  · have e : s = ws := by omega
    rw [e] at this; omega
theorem sw_BI_old (I : sw_BI lim D V A q f g h t fr v ws) (hs : -V ≤ ws ∧ ws ≤ V) (hk : f (sw_cd fr ws) ≠ -1) : sw_BI lim D V A q f g h t fr v (ws + 1) := by
  obtain ⟨i1, i2, i3, i4, i5, i6, i7⟩ := I
  refine ⟨i1, i2, i3, i4, i5, i6, fun s s1 s2 s3 => ?_⟩
  rcases Int.lt_or_le s ws with z | z
  · exact i7 s s1 z s3
  · have e : s = ws := by omega
    subst e
    rcases i1.a4 fr s s3 with y | ⟨y, i, y1, y2⟩
    · exact absurd y hk
    · refine ⟨y, ?_⟩
      have := i1.a3 i y1 i2
      rw [y2] at this
      exact this
theorem sw_BI_x (I : sw_BI lim D V A q f g h t fr v ws) : 0 ≤ f (g h).toNat ∧ f (g h).toNat ≤ h := by
  obtain ⟨p', s', b1, b2, b3, b4⟩ := I.1.a1 h I.2.1
  have e : sw_cd p' s' = (g h).toNat := by unfold sw_cd; rw [b2]
  rw [e] at b3 b4
  exact ⟨b3, b4⟩
theorem sw_BF_t (B : sw_BF lim D V A q v0 f g h t) : t ≤ (41 * (D + 1)).toNat := by
  have := sw_cn_le f (41 * (D + 1)).toNat
  have := B.a7
  omega
theorem sw_BI_put (hD : 0 ≤ D) (hV : V ≤ 20) (I : sw_BI lim D V A q f g h t fr v ws) (hs : -V ≤ ws ∧ ws ≤ V) (hk : f (sw_cd fr ws) = -1) (hw : v - A ≤ ws ∧ ws ≤ v + A) (hf : ∀ j, f' j = if j = sw_cd fr ws then f (g h).toNat + 1 else f j) (hg : ∀ j, g' j = if j = t then 41 * fr + ws + 20 else g j) : sw_BI lim D V A q f' g' h (t + 1) fr v (ws + 1) := by
  have hx := sw_BI_x I
  obtain ⟨i1, i2, i3, i4, i5, i6, i7⟩ := I
  have hvw : sw_vd D V fr ws := ⟨i5, hs⟩
  have ec : f (g h).toNat = f (sw_cd (fr + v) v) := by rw [i3]; rfl
  have hN : sw_Nr lim D V A q (f (g h).toNat + 1).toNat fr ws := by
    have h5 := i1.a5 (fr + v) v i4 (by rw [← ec]; exact hx.1)
    rw [← ec] at h5
    rw [show (f (g h).toNat + 1).toNat = (f (g h).toNat).toNat + 1 by omega]
    exact ⟨v, by omega, by omega, i6, h5⟩
  have gh : g' h = g h := by rw [hg, if_neg (by omega)]
  have fk : ∀ c, 0 ≤ f c → f' c = f c := fun c hc => by rw [hf, if_neg (by intro e; rw [e, hk] at hc; omega)]
  have fh : f' (g' h).toNat = f (g h).toNat := by rw [gh]; exact fk _ hx.1
  refine ⟨sw_BF_put hD hV i1 hvw hk (x := f (g h).toNat + 1) (by omega) (by omega) (fun i hi => i1.a3 i hi i2) hN (fun _ => Int.le_refl _) hf hg, by omega, by rw [gh]; exact i3, i4, i5, i6, fun s s1 s2 s3 => ?_⟩
  rw [fh]
  rcases Int.lt_or_le s ws with z | z
  · have := i7 s s1 z s3
    rw [fk _ this.1]
    exact this
  · have e : s = ws := by omega
    rw [e, hf, if_pos rfl]
    omega
theorem sw_BI_end (hV : V ≤ 20) (I : sw_BI lim D V A q f g h t fr v ws) (hw : v + A < ws) : sw_BF lim D V A q (A + 1) f g (h + 1) t := by
  obtain ⟨i1, i2, i3, i4, i5, i6, i7⟩ := I
  refine sw_BF_next i1 i2 (fun p u s e1 e2 e3 e4 e5 e6 => ?_)
  have e7 : p + u = fr + v ∧ u = v := by
    unfold sw_vd at e2 i4
    rw [i3] at e1
    omega
  have e8 : u = v := e7.2
  have e9 : p = fr := by omega
  subst e8
  subst e9
  exact i7 s (by omega) (by omega) e3
/-- the ends are found -/
def sw_BR (lim : Nat → Int) (D V A q : Int) (f g : Nat → Int) (t : Nat) (v : Int) : Prop := sw_BF lim D V A q v f g 0 t ∧ (∀ i, i < t → f (g i).toNat ≤ 0) ∧ ∀ s, v ≤ s → sw_vd D V q s → f (sw_cd q s) = -1
theorem sw_BR_skip (I : sw_BR lim D V A q f g t v) (hs : ¬ (-V ≤ v ∧ v ≤ V)) : sw_BR lim D V A q f g t (v + 1) := by
  obtain ⟨B, i2, i3⟩ := I
  refine ⟨⟨B.a1, B.a2, B.a3, B.a4, B.a5, B.a6, B.a7, B.a8, fun s b1 b2 b3 => ?_⟩, i2, fun s b1 b2 => i3 s (by omega) b2⟩
  have := b3.2
  rcases Int.lt_or_le s v with z | z
  · exact B.a9 s b1 z b3
  · have e : s = v := by omega
    rw [e] at this; omega
theorem sw_BR_put (hD : 0 ≤ D) (hV : V ≤ 20) (hq : 0 ≤ q ∧ q ≤ D) (I : sw_BR lim D V A q f g t v) (hs : -V ≤ v ∧ v ≤ V) (hv : -A ≤ v ∧ v ≤ A) (hf : ∀ j, f' j = if j = sw_cd q v then 0 else f j) (hg : ∀ j, g' j = if j = t then 41 * q + v + 20 else g j) : sw_BR lim D V A q f' g' (t + 1) (v + 1) := by
  obtain ⟨B, i2, i3⟩ := I
  have hvw : sw_vd D V q v := ⟨hq, hs⟩
  have hk := i3 v (by omega) hvw
  have B2 := sw_BF_put (f' := f') (g' := g') hD hV B hvw hk (x := 0) (by omega) (by omega) i2 ⟨rfl, hv.1, hv.2⟩ (fun z => by
    obtain ⟨p', s', b1, b2, b3, b4⟩ := B.a1 0 z
    rw [b2]
    have e : f (41 * p' + s' + 20).toNat = f (sw_cd p' s') := rfl
    omega) hf hg
  refine ⟨⟨B2.a1, B2.a2, B2.a3, B2.a4, B2.a5, B2.a6, B2.a7, B2.a8, fun s b1 b2 b3 => ?_⟩, fun i hi => ?_, fun s b1 b2 => ?_⟩
  · rcases Int.lt_or_le s v with z | z
    · exact B2.a9 s b1 z b3
    · have e : s = v := by omega
      rw [e, hf, if_pos rfl]
  · rcases Nat.lt_or_ge i t with z | z
    · obtain ⟨p', s', b1, b2, b3, b4⟩ := B.a1 i z
      have e1 : g' i = g i := by rw [hg, if_neg (by omega)]
      rw [e1, hf]
      split
      · exact Int.le_refl _
      · exact i2 i z
    · have e : i = t := by omega
      have e1 : g' i = 41 * q + v + 20 := by rw [hg, if_pos e]
      rw [e1, hf, if_pos (show (41 * q + v + 20).toNat = sw_cd q v from rfl)]
      exact Int.le_refl _
  · rw [hf, if_neg]
    · exact i3 s (by omega) b2
    · intro e
      have := sw_cd_inj hV b2 hvw e
      omega
theorem sw_u2_f (σ : sw_S) (k t : Nat) (x c : Int) (j : Nat) : sw_u (sw_u σ 36 k x) 37 t c 36 j = if j = k then x else σ 36 j := by simp [sw_u]
theorem sw_u2_g (σ : sw_S) (k t : Nat) (x c : Int) (j : Nat) : sw_u (sw_u σ 36 k x) 37 t c 37 j = if j = t then c else σ 37 j := by simp [sw_u]
end
