/-! RIDES, as mathematics: d is how far the end is, by the way w; a tick of speed u takes d to d - u -/
section Rides
variable {lim : Nat → Int} {D V A q w : Int}
def sw_t (lim : Nat → Int) (D V q w d u : Int) : Prop := sw_tk lim D V (q - w * d) (w * u)
theorem sw_t_iff (hw : w = 1 ∨ w = -1) {d u : Int} (hu : 1 ≤ u) : sw_t lim D V q w d u ↔ (u ≤ V ∧ 0 ≤ q - w * (d - u) ∧ q - w * (d - u) ≤ D ∧ ∀ c : Int, d - u ≤ c → c ≤ d → u ≤ lim (q - w * c).toNat) := by
  have ha : sw_abs (w * u) = u := by unfold sw_abs; rcases hw with rfl | rfl <;> split <;> omega
  have hp : q - w * d + w * u = q - w * (d - u) := by rcases hw with rfl | rfl <;> omega
  unfold sw_t sw_tk sw_rn
  rw [ha, hp]
  constructor
  · rintro ⟨h1, h2, h3, h4⟩
    refine ⟨h1, h2, h3, fun c c1 c2 => h4 _ ?_⟩
    rcases hw with rfl | rfl <;> omega
  · rintro ⟨h1, h2, h3, h4⟩
    refine ⟨h1, h2, h3, fun x hx => ?_⟩
    rcases hw with rfl | rfl
    · have := h4 (q - x) (by omega) (by omega)
      rw [show q - 1 * (q - x) = x by omega] at this
      exact this
    · have := h4 (x - q) (by omega) (by omega)
      rw [show q - -1 * (x - q) = x by omega] at this
      exact this
/-- rides toward the end, from d to e -/
def sw_Q (lim : Nat → Int) (D V A q w : Int) : Nat → Int → Int → Int → Prop
  | 0, d, e, b => d = e ∧ b ≤ A
  | n + 1, d, e, b => ∃ s, 1 ≤ s ∧ s ≤ d - e ∧ b - A ≤ s ∧ s ≤ b + A ∧ sw_t lim D V q w d s ∧ sw_Q lim D V A q w n (d - s) e s
theorem sw_Q_R : ∀ (n : Nat) (d b : Int), sw_Q lim D V A q w n d 0 b ↔ sw_R lim D V A q w n d b
  | 0, d, b => Iff.rfl
  | n + 1, d, b => by
    constructor
    · rintro ⟨s, h1, h2, h3, h4, h5, h6⟩
      exact ⟨s, h1, by omega, h3, h4, h5, (sw_Q_R n _ _).mp h6⟩
    · rintro ⟨s, h1, h2, h3, h4, h5, h6⟩
      exact ⟨s, h1, by omega, h3, h4, h5, (sw_Q_R n _ _).mpr h6⟩
theorem sw_Q_le : ∀ (n : Nat) (d e b : Int), sw_Q lim D V A q w n d e b → e ≤ d
  | 0, d, e, b, h => by have := h.1; omega
  | n + 1, d, e, b, h => by obtain ⟨s, h1, h2, -⟩ := h; omega
/-- a ride from one place nearer takes no more ticks -/
theorem sw_near (hw : w = 1 ∨ w = -1) (hA : 1 ≤ A) : ∀ (n : Nat) (d e b s : Int), 0 ≤ b → 1 ≤ s → s ≤ d - e → b - A < s → s ≤ b + A → sw_t lim D V q w d s → sw_Q lim D V A q w n (d - s) e s → ∃ m, m ≤ n + 1 ∧ sw_Q lim D V A q w m (d - 1) e b
  | 0, d, e, b, s, h0, h1, h2, h3, h4, h5, h6 => by
    obtain ⟨a1, a2⟩ := h6
    rcases Int.lt_or_le 1 s with z | z
    · refine ⟨1, by omega, s - 1, by omega, by omega, by omega, by omega, ?_, ?_⟩
      · rw [sw_t_iff hw (by omega)] at h5 ⊢
        obtain ⟨t1, t2, t3, t4⟩ := h5
        rw [show d - 1 - (s - 1) = d - s by omega]
        exact ⟨by omega, t2, t3, fun c c1 c2 => by have := t4 c (by omega) (by omega); omega⟩
      · rw [show d - 1 - (s - 1) = d - s by omega]; exact ⟨a1, by omega⟩
    · exact ⟨0, by omega, by omega, by omega⟩
  | n + 1, d, e, b, s, h0, h1, h2, h3, h4, h5, h6 => by
    obtain ⟨s2, k1, k2, k3, k4, k5, k6⟩ := h6
    rcases Int.lt_or_le (s - 1 + A) s2 with z | z
    · obtain ⟨m, m1, m2⟩ := sw_near hw hA n (d - s) e s s2 (by omega) k1 k2 (by omega) k4 k5 k6
      refine ⟨m + 1, by omega, s, h1, by omega, by omega, h4, ?_, ?_⟩
      · rw [sw_t_iff hw (by omega)] at h5 k5 ⊢
        obtain ⟨t1, t2, t3, t4⟩ := h5
        obtain ⟨u1, u2, u3, u4⟩ := k5
        rw [show d - 1 - s = d - s - 1 by omega]
        refine ⟨t1, by rcases hw with rfl | rfl <;> omega, by rcases hw with rfl | rfl <;> omega, fun c c1 c2 => ?_⟩
        rcases Int.lt_or_le c (d - s) with y | y
        · have := u4 c (by omega) (by omega); omega
        · exact t4 c y (by omega)
      · rw [show d - 1 - s = d - s - 1 by omega]; exact m2
    · rcases Int.lt_or_le 1 s with y | y
      · refine ⟨n + 2, by omega, s - 1, by omega, by omega, by omega, by omega, ?_, ?_⟩
        · rw [sw_t_iff hw (by omega)] at h5 ⊢
          obtain ⟨t1, t2, t3, t4⟩ := h5
          rw [show d - 1 - (s - 1) = d - s by omega]
          exact ⟨by omega, t2, t3, fun c c1 c2 => by have := t4 c (by omega) (by omega); omega⟩
        · rw [show d - 1 - (s - 1) = d - s by omega]
          exact ⟨s2, k1, k2, by omega, by omega, k5, k6⟩
      · have es : s = 1 := by omega
        subst es
        exact ⟨n + 1, by omega, s2, k1, by omega, by omega, by omega, k5, k6⟩
theorem sw_near0 (hw : w = 1 ∨ w = -1) (hA : 1 ≤ A) {n : Nat} {d e : Int} (h : sw_Q lim D V A q w n d e 0) (hd : e < d) : ∃ m, m ≤ n ∧ sw_Q lim D V A q w m (d - 1) e 0 := by
  cases n with
  | zero => have := h.1; omega
  | succ n =>
    obtain ⟨s, h1, h2, h3, h4, h5, h6⟩ := h
    exact sw_near hw hA n d e 0 s (by omega) h1 h2 (by omega) h4 h5 h6
theorem sw_nearer (hw : w = 1 ∨ w = -1) (hA : 1 ≤ A) {e : Int} : ∀ (k n : Nat) (d : Int), sw_Q lim D V A q w n (d + k) e 0 → e ≤ d → ∃ m, m ≤ n ∧ sw_Q lim D V A q w m d e 0
  | 0, n, d, h, _ => ⟨n, Nat.le_refl n, by rw [show d + ((0 : Nat) : Int) = d by omega] at h; exact h⟩
  | k + 1, n, d, h, hd => by
    obtain ⟨m, m1, m2⟩ := sw_near0 hw hA h (by omega)
    rw [show d + ((k + 1 : Nat) : Int) - 1 = d + (k : Int) by omega] at m2
    obtain ⟨m', a1, a2⟩ := sw_nearer hw hA k m d m2 hd
    exact ⟨m', by omega, a2⟩
/-- a ride to one place less far takes no more ticks -/
theorem sw_short (hw : w = 1 ∨ w = -1) (hA : 1 ≤ A) : ∀ (n : Nat) (d e b : Int), (0 ≤ q - w * d ∧ q - w * d ≤ D) → 0 ≤ b → e < d → sw_Q lim D V A q w n d e b → (∃ m, m ≤ n ∧ sw_Q lim D V A q w m d (e + 1) b) ∨ (A + 1 ≤ b ∧ (0 ≤ q - w * (d + 1) → q - w * (d + 1) ≤ D → b ≤ lim (q - w * (d + 1)).toNat → ∀ c, c = b ∨ c = b - 1 → sw_Q lim D V A q w n (d + 1) (e + 1) c))
  | 0, d, e, b, hp, h0, hd, h => by have := h.1; omega
  | n + 1, d, e, b, hp, h0, hd, h => by
    obtain ⟨s, h1, h2, h3, h4, h5, h6⟩ := h
    have h5' := h5
    rw [sw_t_iff hw (by omega)] at h5
    obtain ⟨t1, t2, t3, t4⟩ := h5
    have lower : 2 ≤ s → sw_t lim D V q w d (s - 1) := fun z => by
      rw [sw_t_iff hw (by omega)]
      exact ⟨by omega, by rcases hw with rfl | rfl <;> omega, by rcases hw with rfl | rfl <;> omega, fun c c1 c2 => by have := t4 c (by omega) (by omega); omega⟩
    have back : 0 ≤ q - w * (d + 1) → q - w * (d + 1) ≤ D → s ≤ lim (q - w * (d + 1)).toNat → sw_t lim D V q w (d + 1) s := fun z1 z2 z3 => by
      rw [sw_t_iff hw (by omega)]
      refine ⟨t1, by rcases hw with rfl | rfl <;> omega, by rcases hw with rfl | rfl <;> omega, fun c c1 c2 => ?_⟩
      rcases Int.lt_or_le d c with y | y
      · rw [show c = d + 1 by omega]; exact z3
      · exact t4 c (by omega) y
    rcases Int.lt_or_le e (d - s) with y | y
    · rcases sw_short hw hA n (d - s) e s ⟨t2, t3⟩ (by omega) y h6 with ⟨m, m1, m2⟩ | ⟨x1, x2⟩
      · exact Or.inl ⟨m + 1, by omega, s, h1, by omega, h3, h4, h5', m2⟩
      · have hpl : 0 ≤ q - w * (d - s + 1) ∧ q - w * (d - s + 1) ≤ D ∧ s ≤ lim (q - w * (d - s + 1)).toNat := by
          refine ⟨?_, ?_, t4 _ (by omega) (by omega)⟩
          · rcases hw with rfl | rfl <;> omega
          · rcases hw with rfl | rfl <;> omega
        have x3 := x2 hpl.1 hpl.2.1 hpl.2.2
        rcases Int.lt_or_le (b - A) s with z | z
        · refine Or.inl ⟨n + 1, by omega, s - 1, by omega, by omega, by omega, by omega, lower (by omega), ?_⟩
          rw [show d - (s - 1) = d - s + 1 by omega]
          exact x3 (s - 1) (Or.inr rfl)
        · refine Or.inr ⟨by omega, fun z1 z2 z3 c hc => ⟨s, h1, by omega, by omega, by omega, back z1 z2 (by omega), ?_⟩⟩
          rw [show d + 1 - s = d - s + 1 by omega]
          exact x3 s (Or.inl rfl)
    · have ed : d - s = e := by omega
      have hs : s ≤ A := by
        cases n with
        | zero => exact h6.2
        | succ n => obtain ⟨s2, k1, k2, -⟩ := h6; omega
      have hn : ∃ k, n = k := ⟨n, rfl⟩
      rcases Int.lt_or_le (b - A) s with z | z
      · left
        rcases Int.lt_or_le 1 s with y2 | y2
        · exact ⟨1, by omega, s - 1, by omega, by omega, by omega, by omega, lower (by omega), by omega, by omega⟩
        · exact ⟨0, by omega, by omega, by omega⟩
      · right
        refine ⟨by omega, fun z1 z2 z3 c hc => ?_⟩
        cases n with
        | zero => exact ⟨s, h1, by omega, by omega, by omega, back z1 z2 (by omega), by omega, hs⟩
        | succ n => obtain ⟨s2, k1, k2, -⟩ := h6; omega
theorem sw_shorter (hw : w = 1 ∨ w = -1) (hA : 1 ≤ A) {d : Int} (hp : 0 ≤ q - w * d ∧ q - w * d ≤ D) : ∀ (k n : Nat) (e : Int), sw_Q lim D V A q w n d e 0 → e + k ≤ d → ∃ m, m ≤ n ∧ sw_Q lim D V A q w m d (e + k) 0
  | 0, n, e, h, _ => ⟨n, Nat.le_refl n, by rw [show e + ((0 : Nat) : Int) = e by omega]; exact h⟩
  | k + 1, n, e, h, hd => by
    rcases sw_short hw hA n d e 0 hp (by omega) (by omega) h with ⟨m, m1, m2⟩ | ⟨x1, -⟩
    · obtain ⟨m', a1, a2⟩ := sw_shorter hw hA hp k m (e + 1) m2 (by omega)
      exact ⟨m', by omega, by rw [show e + ((k + 1 : Nat) : Int) = e + 1 + (k : Int) by omega]; exact a2⟩
    · omega
theorem sw_Q_cat (hA : 1 ≤ A) : ∀ (n m : Nat) (d e f b : Int), 0 ≤ b → sw_Q lim D V A q w n d e b → sw_Q lim D V A q w m e f 0 → sw_Q lim D V A q w (n + m) d f b
  | 0, m, d, e, f, b, h0, h, k => by
    obtain ⟨h1, h2⟩ := h
    subst h1
    rw [Nat.zero_add]
    cases m with
    | zero => exact ⟨k.1, h2⟩
    | succ m =>
      obtain ⟨s, k1, k2, k3, k4, k5, k6⟩ := k
      exact ⟨s, k1, k2, by omega, by omega, k5, k6⟩
  | n + 1, m, d, e, f, b, h0, h, k => by
    obtain ⟨s, h1, h2, h3, h4, h5, h6⟩ := h
    have := sw_Q_le _ _ _ _ k
    rw [show n + 1 + m = (n + m) + 1 by omega]
    exact ⟨s, h1, by omega, h3, h4, h5, sw_Q_cat hA n m (d - s) e f s (by omega) h6 k⟩
/-- any rides, their ticks of both ways; k of the n ticks go toward the end -/
def sw_G (lim : Nat → Int) (D V A q w : Int) : Nat → Nat → Int → Int → Prop
  | 0, k, d, s => k = 0 ∧ d = 0 ∧ -A ≤ s ∧ s ≤ A
  | n + 1, k, d, s => ∃ u, -A ≤ u - s ∧ u - s ≤ A ∧ sw_t lim D V q w d u ∧ ((1 ≤ u ∧ ∃ k', k = k' + 1 ∧ sw_G lim D V A q w n k' (d - u) u) ∨ (u ≤ 0 ∧ sw_G lim D V A q w n k (d - u) u))
theorem sw_G_le : ∀ (n k : Nat) (d s : Int), sw_G lim D V A q w n k d s → k ≤ n
  | 0, k, d, s, h => by have := h.1; omega
  | n + 1, k, d, s, h => by
    obtain ⟨u, -, -, -, ⟨-, k', h1, h2⟩ | ⟨-, h2⟩⟩ := h
    · have := sw_G_le n k' _ _ h2; omega
    · have := sw_G_le n k _ _ h2; omega
theorem sw_t_pl (hw : w = 1 ∨ w = -1) {d u : Int} (h : sw_t lim D V q w d u) : 0 ≤ q - w * (d - u) ∧ q - w * (d - u) ≤ D := by
  have h2 := h.2.1
  have h3 := h.2.2.1
  rcases hw with rfl | rfl <;> omega
/-- THE RIDES' LAW: what any ride does with k ticks toward its end, a ride toward the end alone does with k at most -/
theorem sw_G_main (hw : w = 1 ∨ w = -1) (hA : 1 ≤ A) : ∀ (n k : Nat) (d s : Int), (0 ≤ q - w * d ∧ q - w * d ≤ D) → sw_G lim D V A q w n k d s → (s ≤ 0 → 0 ≤ d → ∃ m, m ≤ k ∧ sw_Q lim D V A q w m d 0 0) ∧ (1 ≤ s → ∃ (e : Int) (j m : Nat), sw_Q lim D V A q w j d e s ∧ j + m ≤ k ∧ (0 ≤ e → sw_Q lim D V A q w m e 0 0))
  | 0, k, d, s, hp, h => by
    obtain ⟨h1, h2, h3, h4⟩ := h
    refine ⟨fun _ _ => ⟨0, by omega, h2, by omega⟩, fun _ => ⟨0, 0, 0, ⟨h2, h4⟩, by omega, fun _ => ⟨rfl, by omega⟩⟩⟩
  | n + 1, k, d, s, hp, h => by
    obtain ⟨u, u1, u2, u3, ⟨u4, k', hk, h6⟩ | ⟨u4, h6⟩⟩ := h
    · obtain ⟨e, j, m, m1, m2, m3⟩ := (sw_G_main hw hA n k' (d - u) u (sw_t_pl hw u3) h6).2 u4
      have hle := sw_Q_le _ _ _ _ m1
      refine ⟨fun hs hd => ?_, fun hs => ⟨e, j + 1, m, ⟨u, u4, by omega, by omega, by omega, u3, m1⟩, by omega, m3⟩⟩
      have hq : sw_Q lim D V A q w (j + 1) d e 0 := ⟨u, u4, by omega, by omega, by omega, u3, m1⟩
      rcases Int.lt_or_le e 0 with y | y
      · obtain ⟨m', a1, a2⟩ := sw_shorter hw hA hp (-e).toNat (j + 1) e hq (by omega)
        rw [show e + ((-e).toNat : Int) = 0 by omega] at a2
        exact ⟨m', by omega, a2⟩
      · exact ⟨j + 1 + m, by omega, sw_Q_cat hA (j + 1) m d e 0 0 (by omega) hq (m3 y)⟩
    · have ih := (sw_G_main hw hA n k (d - u) u (sw_t_pl hw u3) h6).1 u4
      have key : 0 ≤ d → ∃ m, m ≤ k ∧ sw_Q lim D V A q w m d 0 0 := fun hd => by
        obtain ⟨m, m1, m2⟩ := ih (by omega)
        obtain ⟨m', a1, a2⟩ := sw_nearer hw hA (-u).toNat m d (by rw [show d + ((-u).toNat : Int) = d - u by omega]; exact m2) hd
        exact ⟨m', by omega, a2⟩
      refine ⟨fun _ hd => key hd, fun hs => ?_⟩
      rcases Int.lt_or_le d 0 with y | y
      · exact ⟨d, 0, 0, ⟨rfl, by omega⟩, by omega, fun z => by omega⟩
      · obtain ⟨m, m1, m2⟩ := key y
        exact ⟨d, 0, m, ⟨rfl, by omega⟩, by omega, fun _ => m2⟩
end Rides
