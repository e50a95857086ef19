section Rows
variable {ly : sw_Ly} {ρ : sw_Rf} {M : sw_M} {I : List (Option sw_I)} {pc : Nat} {L : sw_L} {st : List sw_Vl} {σ : sw_S} {Q : Option sw_Vl → sw_S → Prop}
theorem sw_icmp_eq (hI : sw_Ok M I) {off : Int} {a b : Nat} {z x y : Int} (h : I[pc]? = some (some (.if_icmp .eq off, a, b, z))) (gx : sw_g x) (gy : sw_g y) (tgt nx : Nat) (ht : (pc : Int) + off = (tgt : Int)) (hn : pc + 3 = nx) (kt : x = y → sw_E ly ρ M tgt L st σ Q) (kf : ¬ x = y → sw_E ly ρ M nx L st σ Q) : sw_E ly ρ M pc L (.inl y :: .inl x :: st) σ Q := by
  subst hn
  intro l D c3 ad p e s m args below meth c H locs ls C hP hS hl
  exact lv_icmp_eq C.1 C.2.1 (sw_dec hI h).1 ht (fun q => kt ((sw_eq gx gy).mp q) l D c3 ad p e s m args below meth c H locs ls C hP hS hl) (fun q => kf (fun z => q ((sw_eq gx gy).mpr z)) l D c3 ad p e s m args below meth c H locs ls C hP hS hl)
theorem sw_if_eq (hI : sw_Ok M I) {off : Int} {a b : Nat} {z x : Int} (h : I[pc]? = some (some (.ifCond .eq off, a, b, z))) (gx : sw_g x) (tgt nx : Nat) (ht : (pc : Int) + off = (tgt : Int)) (hn : pc + 3 = nx) (kt : x = 0 → sw_E ly ρ M tgt L st σ Q) (kf : ¬ x = 0 → sw_E ly ρ M nx L st σ Q) : sw_E ly ρ M pc L (.inl x :: st) σ Q := by
  subst hn
  intro l D c3 ad p e s m args below meth c H locs ls C hP hS hl
  exact lv_if_eq C.1 C.2.1 (sw_dec hI h).1 ht (fun q => kt ((sw_eq gx sw_g0).mp q) l D c3 ad p e s m args below meth c H locs ls C hP hS hl) (fun q => kf (fun z => q ((sw_eq gx sw_g0).mpr z)) l D c3 ad p e s m args below meth c H locs ls C hP hS hl)
theorem sw_icmp_ne (hI : sw_Ok M I) {off : Int} {a b : Nat} {z x y : Int} (h : I[pc]? = some (some (.if_icmp .ne off, a, b, z))) (gx : sw_g x) (gy : sw_g y) (tgt nx : Nat) (ht : (pc : Int) + off = (tgt : Int)) (hn : pc + 3 = nx) (kt : ¬ x = y → sw_E ly ρ M tgt L st σ Q) (kf : x = y → sw_E ly ρ M nx L st σ Q) : sw_E ly ρ M pc L (.inl y :: .inl x :: st) σ Q := by
  subst hn
  intro l D c3 ad p e s m args below meth c H locs ls C hP hS hl
  exact lv_icmp_ne C.1 C.2.1 (sw_dec hI h).1 ht (fun q => kt (fun z => q ((sw_eq gx gy).mpr z)) l D c3 ad p e s m args below meth c H locs ls C hP hS hl) (fun q => kf ((sw_eq gx gy).mp q) l D c3 ad p e s m args below meth c H locs ls C hP hS hl)
theorem sw_if_ne (hI : sw_Ok M I) {off : Int} {a b : Nat} {z x : Int} (h : I[pc]? = some (some (.ifCond .ne off, a, b, z))) (gx : sw_g x) (tgt nx : Nat) (ht : (pc : Int) + off = (tgt : Int)) (hn : pc + 3 = nx) (kt : ¬ x = 0 → sw_E ly ρ M tgt L st σ Q) (kf : x = 0 → sw_E ly ρ M nx L st σ Q) : sw_E ly ρ M pc L (.inl x :: st) σ Q := by
  subst hn
  intro l D c3 ad p e s m args below meth c H locs ls C hP hS hl
  exact lv_if_ne C.1 C.2.1 (sw_dec hI h).1 ht (fun q => kt (fun z => q ((sw_eq gx sw_g0).mpr z)) l D c3 ad p e s m args below meth c H locs ls C hP hS hl) (fun q => kf ((sw_eq gx sw_g0).mp q) l D c3 ad p e s m args below meth c H locs ls C hP hS hl)
theorem sw_icmp_lt (hI : sw_Ok M I) {off : Int} {a b : Nat} {z x y : Int} (h : I[pc]? = some (some (.if_icmp .lt off, a, b, z))) (gx : sw_g x) (gy : sw_g y) (tgt nx : Nat) (ht : (pc : Int) + off = (tgt : Int)) (hn : pc + 3 = nx) (kt : x < y → sw_E ly ρ M tgt L st σ Q) (kf : ¬ x < y → sw_E ly ρ M nx L st σ Q) : sw_E ly ρ M pc L (.inl y :: .inl x :: st) σ Q := by
  subst hn
  intro l D c3 ad p e s m args below meth c H locs ls C hP hS hl
  exact lv_icmp_lt C.1 C.2.1 (sw_dec hI h).1 ht (fun q => kt ((sw_lt gx gy).mp q) l D c3 ad p e s m args below meth c H locs ls C hP hS hl) (fun q => kf (fun z => q ((sw_lt gx gy).mpr z)) l D c3 ad p e s m args below meth c H locs ls C hP hS hl)
theorem sw_if_lt (hI : sw_Ok M I) {off : Int} {a b : Nat} {z x : Int} (h : I[pc]? = some (some (.ifCond .lt off, a, b, z))) (gx : sw_g x) (tgt nx : Nat) (ht : (pc : Int) + off = (tgt : Int)) (hn : pc + 3 = nx) (kt : x < 0 → sw_E ly ρ M tgt L st σ Q) (kf : ¬ x < 0 → sw_E ly ρ M nx L st σ Q) : sw_E ly ρ M pc L (.inl x :: st) σ Q := by
  subst hn
  intro l D c3 ad p e s m args below meth c H locs ls C hP hS hl
  exact lv_if_lt C.1 C.2.1 (sw_dec hI h).1 ht (fun q => kt ((sw_lt gx sw_g0).mp q) l D c3 ad p e s m args below meth c H locs ls C hP hS hl) (fun q => kf (fun z => q ((sw_lt gx sw_g0).mpr z)) l D c3 ad p e s m args below meth c H locs ls C hP hS hl)
theorem sw_icmp_ge (hI : sw_Ok M I) {off : Int} {a b : Nat} {z x y : Int} (h : I[pc]? = some (some (.if_icmp .ge off, a, b, z))) (gx : sw_g x) (gy : sw_g y) (tgt nx : Nat) (ht : (pc : Int) + off = (tgt : Int)) (hn : pc + 3 = nx) (kt : y ≤ x → sw_E ly ρ M tgt L st σ Q) (kf : ¬ y ≤ x → sw_E ly ρ M nx L st σ Q) : sw_E ly ρ M pc L (.inl y :: .inl x :: st) σ Q := by
  subst hn
  intro l D c3 ad p e s m args below meth c H locs ls C hP hS hl
  exact lv_icmp_ge C.1 C.2.1 (sw_dec hI h).1 ht (fun q => kt ((sw_le gy gx).mp q) l D c3 ad p e s m args below meth c H locs ls C hP hS hl) (fun q => kf (fun z => q ((sw_le gy gx).mpr z)) l D c3 ad p e s m args below meth c H locs ls C hP hS hl)
theorem sw_if_ge (hI : sw_Ok M I) {off : Int} {a b : Nat} {z x : Int} (h : I[pc]? = some (some (.ifCond .ge off, a, b, z))) (gx : sw_g x) (tgt nx : Nat) (ht : (pc : Int) + off = (tgt : Int)) (hn : pc + 3 = nx) (kt : 0 ≤ x → sw_E ly ρ M tgt L st σ Q) (kf : ¬ 0 ≤ x → sw_E ly ρ M nx L st σ Q) : sw_E ly ρ M pc L (.inl x :: st) σ Q := by
  subst hn
  intro l D c3 ad p e s m args below meth c H locs ls C hP hS hl
  exact lv_if_ge C.1 C.2.1 (sw_dec hI h).1 ht (fun q => kt ((sw_le sw_g0 gx).mp q) l D c3 ad p e s m args below meth c H locs ls C hP hS hl) (fun q => kf (fun z => q ((sw_le sw_g0 gx).mpr z)) l D c3 ad p e s m args below meth c H locs ls C hP hS hl)
theorem sw_icmp_gt (hI : sw_Ok M I) {off : Int} {a b : Nat} {z x y : Int} (h : I[pc]? = some (some (.if_icmp .gt off, a, b, z))) (gx : sw_g x) (gy : sw_g y) (tgt nx : Nat) (ht : (pc : Int) + off = (tgt : Int)) (hn : pc + 3 = nx) (kt : y < x → sw_E ly ρ M tgt L st σ Q) (kf : ¬ y < x → sw_E ly ρ M nx L st σ Q) : sw_E ly ρ M pc L (.inl y :: .inl x :: st) σ Q := by
  subst hn
  intro l D c3 ad p e s m args below meth c H locs ls C hP hS hl
  exact lv_icmp_gt C.1 C.2.1 (sw_dec hI h).1 ht (fun q => kt ((sw_lt gy gx).mp q) l D c3 ad p e s m args below meth c H locs ls C hP hS hl) (fun q => kf (fun z => q ((sw_lt gy gx).mpr z)) l D c3 ad p e s m args below meth c H locs ls C hP hS hl)
theorem sw_if_gt (hI : sw_Ok M I) {off : Int} {a b : Nat} {z x : Int} (h : I[pc]? = some (some (.ifCond .gt off, a, b, z))) (gx : sw_g x) (tgt nx : Nat) (ht : (pc : Int) + off = (tgt : Int)) (hn : pc + 3 = nx) (kt : 0 < x → sw_E ly ρ M tgt L st σ Q) (kf : ¬ 0 < x → sw_E ly ρ M nx L st σ Q) : sw_E ly ρ M pc L (.inl x :: st) σ Q := by
  subst hn
  intro l D c3 ad p e s m args below meth c H locs ls C hP hS hl
  exact lv_if_gt C.1 C.2.1 (sw_dec hI h).1 ht (fun q => kt ((sw_lt sw_g0 gx).mp q) l D c3 ad p e s m args below meth c H locs ls C hP hS hl) (fun q => kf (fun z => q ((sw_lt sw_g0 gx).mpr z)) l D c3 ad p e s m args below meth c H locs ls C hP hS hl)
theorem sw_icmp_le (hI : sw_Ok M I) {off : Int} {a b : Nat} {z x y : Int} (h : I[pc]? = some (some (.if_icmp .le off, a, b, z))) (gx : sw_g x) (gy : sw_g y) (tgt nx : Nat) (ht : (pc : Int) + off = (tgt : Int)) (hn : pc + 3 = nx) (kt : x ≤ y → sw_E ly ρ M tgt L st σ Q) (kf : ¬ x ≤ y → sw_E ly ρ M nx L st σ Q) : sw_E ly ρ M pc L (.inl y :: .inl x :: st) σ Q := by
  subst hn
  intro l D c3 ad p e s m args below meth c H locs ls C hP hS hl
  exact lv_icmp_le C.1 C.2.1 (sw_dec hI h).1 ht (fun q => kt ((sw_le gx gy).mp q) l D c3 ad p e s m args below meth c H locs ls C hP hS hl) (fun q => kf (fun z => q ((sw_le gx gy).mpr z)) l D c3 ad p e s m args below meth c H locs ls C hP hS hl)
theorem sw_if_le (hI : sw_Ok M I) {off : Int} {a b : Nat} {z x : Int} (h : I[pc]? = some (some (.ifCond .le off, a, b, z))) (gx : sw_g x) (tgt nx : Nat) (ht : (pc : Int) + off = (tgt : Int)) (hn : pc + 3 = nx) (kt : x ≤ 0 → sw_E ly ρ M tgt L st σ Q) (kf : ¬ x ≤ 0 → sw_E ly ρ M nx L st σ Q) : sw_E ly ρ M pc L (.inl x :: st) σ Q := by
  subst hn
  intro l D c3 ad p e s m args below meth c H locs ls C hP hS hl
  exact lv_if_le C.1 C.2.1 (sw_dec hI h).1 ht (fun q => kt ((sw_le gx sw_g0).mp q) l D c3 ad p e s m args below meth c H locs ls C hP hS hl) (fun q => kf (fun z => q ((sw_le gx sw_g0).mpr z)) l D c3 ad p e s m args below meth c H locs ls C hP hS hl)
theorem sw_iald (hI : sw_Ok M I) {a b : Nat} {z x : Int} (h : I[pc]? = some (some (.iaload, a, b, z))) {i n : Nat} (hk : ly[i]? = some (100, n)) (hg : (n : Int) ≤ 2147483648) (h0 : 0 ≤ x) (hx : x < n) (nx : Nat) (hn : pc + 1 = nx) (k : sw_E ly ρ M nx L (.inl (σ i x.toNat) :: st) σ Q) : sw_E ly ρ M pc L (.inl x :: .inr (.inr i) :: st) σ Q := by
  subst hn
  intro l D c3 ad p e s m args below meth c H locs ls C hP hS hl
  obtain ⟨hin, hix⟩ := sw_ix h0 hx hg
  refine va_iald C.1 C.2.1 C.2.2.2.2.2.2.2.1 hP i 0 (sw_wl_at hk) rfl hin (sw_dec hI h).1 ?_
  rw [hix]
  exact k l D c3 ad p e s m args below meth c H locs ls C hP hS hl
theorem sw_zald (hI : sw_Ok M I) {a b : Nat} {z x : Int} (h : I[pc]? = some (some (.baload, a, b, z))) {i n : Nat} (hk : ly[i]? = some (101, n)) (hg : (n : Int) ≤ 2147483648) (h0 : 0 ≤ x) (hx : x < n) (nx : Nat) (hn : pc + 1 = nx) (k : sw_E ly ρ M nx L (.inl (σ i x.toNat) :: st) σ Q) : sw_E ly ρ M pc L (.inl x :: .inr (.inr i) :: st) σ Q := by
  subst hn
  intro l D c3 ad p e s m args below meth c H locs ls C hP hS hl
  obtain ⟨hin, hix⟩ := sw_ix h0 hx hg
  refine va_zald C.1 C.2.1 C.2.2.2.2.2.2.2.1 hP i 1 (sw_wl_at hk) rfl hin (sw_dec hI h).1 ?_
  rw [hix]
  exact k l D c3 ad p e s m args below meth c H locs ls C hP hS hl
theorem sw_aald (hI : sw_Ok M I) {a b : Nat} {z x : Int} (h : I[pc]? = some (some (.aaload, a, b, z))) {i n r : Nat} (hk : ly[i]? = some (102, n)) (hg : (n : Int) ≤ 2147483648) (h0 : 0 ≤ x) (hx : x < n) (hr : ρ i x.toNat = some r) (nx : Nat) (hn : pc + 1 = nx) (k : sw_E ly ρ M nx L (.inr (.inr r) :: st) σ Q) : sw_E ly ρ M pc L (.inl x :: .inr (.inr i) :: st) σ Q := by
  subst hn
  intro l D c3 ad p e s m args below meth c H locs ls C hP hS hl
  obtain ⟨hin, hix⟩ := sw_ix h0 hx hg
  refine va_aldq C.1 C.2.1 C.2.2.2.2.2.2.2.1 hP i 2 (sw_wl_at hk) rfl hin (sw_dec hI h).1 ?_
  rw [hix, hr]
  exact k l D c3 ad p e s m args below meth c H locs ls C hP hS hl
theorem sw_upd_row {i n : Nat} {v : Int} : upd (fun j => Int32.ofInt (σ i j)) n (Int32.ofInt v) = fun j => Int32.ofInt (sw_u σ i n v i j) := by
  funext j
  by_cases hj : j = n
  · subst hj; simp [upd, sw_u]
  · simp [upd, sw_u, hj]
theorem sw_iast (hI : sw_Ok M I) {a b : Nat} {z x v : Int} (h : I[pc]? = some (some (.iastore, a, b, z))) {i n : Nat} (hk : ly[i]? = some (100, n)) (hg : (n : Int) ≤ 2147483648) (h0 : 0 ≤ x) (hx : x < n) (nx : Nat) (hn : pc + 1 = nx) (k : sw_E ly ρ M nx L st (sw_u σ i x.toNat v) Q) : sw_E ly ρ M pc L (.inl v :: .inl x :: .inr (.inr i) :: st) σ Q := by
  subst hn
  intro l D c3 ad p e s m args below meth c H locs ls C hP hS hl
  obtain ⟨hin, hix⟩ := sw_ix h0 hx hg
  have hj : sw_inj ad ly.length := C.2.2.2.2.2.2.2.2
  refine va_iast C.1 C.2.1 C.2.2.2.2.2.2.2.1 hP (sw_D hj) hS i 0 (sw_wl_at hk) rfl hin (sw_dec hI h).1 (fun H1 locs1 hP1 hD1 hS1 => ?_)
  rw [hix, sw_upd_row] at hP1
  have e2 : (ad i, (Sum.inl (c3.1, n, Sum.inl fun j => Int32.ofInt (sw_u σ i x.toNat v i j)) : va_E)) = (ad i, sw_ce c3 ad ρ (sw_u σ i x.toNat v) i (100, n)) := rfl
  rw [e2, sw_wl_set hk (fun a' b' h' => sw_u_row σ v h')] at hP1
  exact k l D c3 ad p e s m args below meth c H1 locs1 ls C hP1 hS1 hl
theorem sw_zast (hI : sw_Ok M I) {a b : Nat} {z x v : Int} (h : I[pc]? = some (some (.bastore, a, b, z))) {i n : Nat} (hk : ly[i]? = some (101, n)) (hg : (n : Int) ≤ 2147483648) (h0 : 0 ≤ x) (hx : x < n) (hv : v = 0 ∨ v = 1) (nx : Nat) (hn : pc + 1 = nx) (k : sw_E ly ρ M nx L st (sw_u σ i x.toNat v) Q) : sw_E ly ρ M pc L (.inl v :: .inl x :: .inr (.inr i) :: st) σ Q := by
  subst hn
  intro l D c3 ad p e s m args below meth c H locs ls C hP hS hl
  obtain ⟨hin, hix⟩ := sw_ix h0 hx hg
  have hj : sw_inj ad ly.length := C.2.2.2.2.2.2.2.2
  refine va_zast C.1 C.2.1 C.2.2.2.2.2.2.2.1 hP (sw_D hj) hS i 1 (sw_wl_at hk) rfl hin (sw_dec hI h).1 (fun H1 locs1 hP1 hD1 hS1 => ?_)
  have hnv : vp_nar .boolean (Int32.ofInt v) = Int32.ofInt v := by rcases hv with rfl | rfl <;> rfl
  rw [hnv, hix, sw_upd_row] at hP1
  have e2 : (ad i, (Sum.inl (c3.2.1, n, Sum.inl fun j => Int32.ofInt (sw_u σ i x.toNat v i j)) : va_E)) = (ad i, sw_ce c3 ad ρ (sw_u σ i x.toNat v) i (101, n)) := rfl
  rw [e2, sw_wl_set hk (fun a' b' h' => sw_u_row σ v h')] at hP1
  exact k l D c3 ad p e s m args below meth c H1 locs1 ls C hP1 hS1 hl
theorem sw_div32 {x y : Int} (gx : sw_g x) (gy : sw_g y) (h0 : 0 ≤ x) (hy : 0 < y) : Int32.ofInt x / Int32.ofInt y = Int32.ofInt (x / y) := by
  have hq : x / y ≤ x := Int.ediv_le_self y h0
  have hq0 : 0 ≤ x / y := Int.ediv_nonneg h0 (by omega)
  apply Int32.toInt_inj.mp
  have hne : Int32.ofInt y ≠ -1 := by
    intro q
    have q2 : (Int32.ofInt y).toInt = -1 := by rw [q]; rfl
    rw [sw_ti gy] at q2
    omega
  rw [Int32.toInt_div_of_ne_right _ _ hne, sw_ti gx, sw_ti gy, sw_ti (x := x / y) ⟨by omega, by have := gx.2; omega⟩, Int.tdiv_eq_ediv_of_nonneg h0]
theorem sw_idiv (hI : sw_Ok M I) {a b : Nat} {z x y : Int} (h : I[pc]? = some (some (.idiv, a, b, z))) (gx : sw_g x) (gy : sw_g y) (h0 : 0 ≤ x) (hy : 0 < y) (nx : Nat) (hn : pc + 1 = nx) (k : sw_E ly ρ M nx L (.inl (x / y) :: st) σ Q) : sw_E ly ρ M pc L (.inl y :: .inl x :: st) σ Q := by
  subst hn
  intro l D c3 ad p e s m args below meth c H locs ls C hP hS hl
  have hne : ¬ Int32.ofInt y = 0 := fun q => by
    have q2 := (sw_eq gy sw_g0).mp q
    omega
  refine lv_idiv C.1 C.2.1 (sw_dec hI h).1 hne ?_
  rw [sw_div32 gx gy h0 hy]
  exact k l D c3 ad p e s m args below meth c H locs ls C hP hS hl
theorem sw_irem (hI : sw_Ok M I) {a b : Nat} {z x y : Int} (h : I[pc]? = some (some (.irem, a, b, z))) (gx : sw_g x) (gy : sw_g y) (h0 : 0 ≤ x) (hy : 0 < y) (nx : Nat) (hn : pc + 1 = nx) (k : sw_E ly ρ M nx L (.inl (x % y) :: st) σ Q) : sw_E ly ρ M pc L (.inl y :: .inl x :: st) σ Q := by
  subst hn
  intro l D c3 ad p e s m args below meth c H locs ls C hP hS hl
  have hne : ¬ Int32.ofInt y = 0 := fun q => by
    have q2 := (sw_eq gy sw_g0).mp q
    omega
  refine lv_irem C.1 C.2.1 (sw_dec hI h).1 hne ?_
  rw [sw_div32 gx gy h0 hy, ← Int32.ofInt_mul, ← Int32.ofInt_sub, show x - x / y * y = x % y by rw [Int.emod_def, Int.mul_comm]]
  exact k l D c3 ad p e s m args below meth c H locs ls C hP hS hl
theorem sw_ixor (hI : sw_Ok M I) {a b : Nat} {z x y : Int} (h : I[pc]? = some (some (.ixor, a, b, z))) (gx : sw_g x) (gy : sw_g y) (h0 : 0 ≤ x) (hy : 0 ≤ y) (nx : Nat) (hn : pc + 1 = nx) (k : ∀ w : Int, 0 ≤ w → sw_g w → sw_E ly ρ M nx L (.inl w :: st) σ Q) : sw_E ly ρ M pc L (.inl y :: .inl x :: st) σ Q := by
  subst hn
  intro l D c3 ad p e s m args below meth c H locs ls C hP hS hl
  refine lv_ixor C.1 C.2.1 (sw_dec hI h).1 ?_
  have hm : ∀ t : Int, sw_g t → 0 ≤ t → (Int32.ofInt t).toBitVec.msb = false := by
    intro t gt ht
    rw [BitVec.msb_eq_toInt]
    have : (Int32.ofInt t).toBitVec.toInt = t := sw_ti gt
    rw [this]
    simp; omega
  have hw : 0 ≤ (Int32.ofInt x ^^^ Int32.ofInt y).toInt := by
    have e1 : ((Int32.ofInt x).toBitVec ^^^ (Int32.ofInt y).toBitVec).msb = false := by rw [BitVec.msb_xor, hm x gx h0, hm y gy hy]; rfl
    rw [BitVec.msb_eq_toInt] at e1
    have e2 : ¬ ((Int32.ofInt x).toBitVec ^^^ (Int32.ofInt y).toBitVec).toInt < 0 := by simpa using e1
    have e3 : (Int32.ofInt x ^^^ Int32.ofInt y).toInt = ((Int32.ofInt x).toBitVec ^^^ (Int32.ofInt y).toBitVec).toInt := rfl
    rw [e3]; omega
  have kk := k (Int32.ofInt x ^^^ Int32.ofInt y).toInt hw ⟨by omega, Int32.toInt_lt _⟩ l D c3 ad p e s m args below meth c H locs ls C hP hS hl
  simp only [List.map_cons, sw_tv, Int32.ofInt_toInt] at kk
  exact kk
theorem sw_i2l (hI : sw_Ok M I) {a b : Nat} {z x : Int} (h : I[pc]? = some (some (.i2l, a, b, z))) (gx : sw_g x) (nx : Nat) (hn : pc + 1 = nx) (k : sw_E ly ρ M nx L (.inr (.inl x) :: st) σ Q) : sw_E ly ρ M pc L (.inl x :: st) σ Q := by
  subst hn
  intro l D c3 ad p e s m args below meth c H locs ls C hP hS hl
  refine lv_i2l C.1 C.2.1 (sw_dec hI h).1 ?_ (k l D c3 ad p e s m args below meth c H locs ls C hP hS hl)
  apply Int64.toInt_inj.mp
  rw [Int32.toInt_toInt64, sw_ti gx, Int64.toInt_ofInt_of_le (by have := gx.1; omega) (by have := gx.2; omega)]
theorem sw_lcmp (hI : sw_Ok M I) {a b : Nat} {z x y : Int} (h : I[pc]? = some (some (.lcmp, a, b, z))) (gx : -9000000000 ≤ x ∧ x < 9000000000) (gy : -9000000000 ≤ y ∧ y < 9000000000) (nx : Nat) (hn : pc + 1 = nx) (k1 : y < x → sw_E ly ρ M nx L (.inl 1 :: st) σ Q) (k0 : x = y → sw_E ly ρ M nx L (.inl 0 :: st) σ Q) (k2 : x < y → sw_E ly ρ M nx L (.inl (-1) :: st) σ Q) : sw_E ly ρ M pc L (.inr (.inl y) :: .inr (.inl x) :: st) σ Q := by
  subst hn
  intro l D c3 ad p e s m args below meth c H locs ls C hP hS hl
  have tx : (Int64.ofInt x).toInt = x := Int64.toInt_ofInt_of_le (by omega) (by omega)
  have ty : (Int64.ofInt y).toInt = y := Int64.toInt_ofInt_of_le (by omega) (by omega)
  refine W.lcmp C.1 C.2.1 (sw_dec hI h).1 ?_
  rcases Int.lt_trichotomy y x with q | q | q
  · have e1 : lg_cmp (Int64.ofInt x) (Int64.ofInt y) = 1 := by simp [lg_cmp, Int64.lt_iff_toInt_lt, tx, ty, q]
    rw [e1]
    exact k1 q l D c3 ad p e s m args below meth c H locs ls C hP hS hl
  · have e1 : lg_cmp (Int64.ofInt x) (Int64.ofInt y) = 0 := by simp [lg_cmp, q]
    rw [e1]
    exact k0 q.symm l D c3 ad p e s m args below meth c H locs ls C hP hS hl
  · have n1 : ¬ Int64.ofInt y < Int64.ofInt x := by rw [Int64.lt_iff_toInt_lt, tx, ty]; omega
    have n2 : ¬ Int64.ofInt x = Int64.ofInt y := by rw [← Int64.toInt_inj, tx, ty]; omega
    have e1 : lg_cmp (Int64.ofInt x) (Int64.ofInt y) = -1 := by simp [lg_cmp, n1, n2]
    rw [e1]
    exact k2 q l D c3 ad p e s m args below meth c H locs ls C hP hS hl
/-! ends -/
theorem sw_ireturn (hI : sw_Ok M I) {a b : Nat} {z v : Int} (h : I[pc]? = some (some (.ireturn, a, b, z))) (hr : M.2.2.2.1 = some .int) (hq : Q (some (.inl v)) σ) : sw_E ly ρ M pc L [.inl v] σ Q := by
  intro l D c3 ad p e s m args below meth c H locs ls C hP hS hl
  have hlk : meth.locks = false := C.2.2.2.2.2.2.1
  exact W.iret C.1 C.2.1 (C.2.2.1.trans hr) (fun t ht hW => ⟨⟨some (.inl v), σ, rfl, hq, by rw [ht]; exact hP, va_K.moved hW.alike C.2.2.2.2.2.2.2.1⟩, hS.F ht⟩) hS.2.2 (sw_dec hI h).1 hlk
theorem sw_zreturn (hI : sw_Ok M I) {a b : Nat} {z v : Int} (h : I[pc]? = some (some (.ireturn, a, b, z))) (hr : M.2.2.2.1 = some .boolean) (hv : v = 0 ∨ v = 1) (hq : Q (some (.inl v)) σ) : sw_E ly ρ M pc L [.inl v] σ Q := by
  intro l D c3 ad p e s m args below meth c H locs ls C hP hS hl
  have hlk : meth.locks = false := C.2.2.2.2.2.2.1
  exact W.zret C.1 C.2.1 (C.2.2.1.trans hr) (by rcases hv with rfl | rfl <;> rfl) (fun t ht hW => ⟨⟨some (.inl v), σ, rfl, hq, by rw [ht]; exact hP, va_K.moved hW.alike C.2.2.2.2.2.2.2.1⟩, hS.F ht⟩) hS.2.2 (sw_dec hI h).1 hlk
theorem sw_lreturn (hI : sw_Ok M I) {a b : Nat} {z v : Int} (h : I[pc]? = some (some (.lreturn, a, b, z))) (hr : M.2.2.2.1 = some .long) (hq : Q (some (.inr (.inl v))) σ) : sw_E ly ρ M pc L [.inr (.inl v)] σ Q := by
  intro l D c3 ad p e s m args below meth c H locs ls C hP hS hl
  have hlk : meth.locks = false := C.2.2.2.2.2.2.1
  exact W.lret C.1 C.2.1 (C.2.2.1.trans hr) (fun t ht hW => ⟨⟨some (.inr (.inl v)), σ, rfl, hq, by rw [ht]; exact hP, va_K.moved hW.alike C.2.2.2.2.2.2.2.1⟩, hS.F ht⟩) hS.2.2 (sw_dec hI h).1 hlk
theorem sw_vreturn (hI : sw_Ok M I) {a b : Nat} {z : Int} (h : I[pc]? = some (some (.return_, a, b, z))) (hr : M.2.2.2.1 = none) (hq : Q none σ) : sw_E ly ρ M pc L [] σ Q := by
  intro l D c3 ad p e s m args below meth c H locs ls C hP hS hl
  have hlk : meth.locks = false := C.2.2.2.2.2.2.1
  exact W.vret C.1 C.2.1 (C.2.2.1.trans hr) (fun t ht hW => ⟨⟨none, σ, rfl, hq, by rw [ht]; exact hP, va_K.moved hW.alike C.2.2.2.2.2.2.2.1⟩, hS.F ht⟩) hS.2.2 (sw_dec hI h).1 hlk
/-! switches -/
theorem sw_tabIn (hI : sw_Ok M I) {dflt lo hi : Int} {offs : Array Int} {a b : Nat} {z x : Int} (h : I[pc]? = some (some (.tableswitch dflt lo hi offs, a, b, z))) (gx : sw_g x) (h1 : ¬ x < lo) (h2 : ¬ hi < x) {off : Int} (ho : offs[(x - lo).toNat]? = some off) (tgt : Nat) (ht : (pc : Int) + off = (tgt : Int)) (k : sw_E ly ρ M tgt L st σ Q) : sw_E ly ρ M pc L (.inl x :: st) σ Q := by
  intro l D c3 ad p e s m args below meth c H locs ls C hP hS hl
  exact lv_tableIn C.1 C.2.1 (sw_dec hI h).1 (by rw [sw_ti gx]; exact h1) (by rw [sw_ti gx]; exact h2) (by rw [sw_ti gx]; exact ho) ht (k l D c3 ad p e s m args below meth c H locs ls C hP hS hl)
theorem sw_tabOut (hI : sw_Ok M I) {dflt lo hi : Int} {offs : Array Int} {a b : Nat} {z x : Int} (h : I[pc]? = some (some (.tableswitch dflt lo hi offs, a, b, z))) (gx : sw_g x) (h1 : x < lo ∨ hi < x) (tgt : Nat) (ht : (pc : Int) + dflt = (tgt : Int)) (k : sw_E ly ρ M tgt L st σ Q) : sw_E ly ρ M pc L (.inl x :: st) σ Q := by
  intro l D c3 ad p e s m args below meth c H locs ls C hP hS hl
  exact lv_tableOut C.1 C.2.1 (sw_dec hI h).1 (by rw [sw_ti gx]; exact h1) ht (k l D c3 ad p e s m args below meth c H locs ls C hP hS hl)
theorem sw_look (hI : sw_Ok M I) {dflt : Int} {ps : Array (Int × Int)} {a b : Nat} {z x : Int} (h : I[pc]? = some (some (.lookupswitch dflt ps, a, b, z))) (gx : sw_g x) (hp : (ps.toList.zip (ps.toList.drop 1)).all (fun (a, next) => a.1 < next.1) = true) {off : Int} (ho : Op.lookupswitch.offset ps.toList dflt x = off) (tgt : Nat) (ht : (pc : Int) + off = (tgt : Int)) (k : sw_E ly ρ M tgt L st σ Q) : sw_E ly ρ M pc L (.inl x :: st) σ Q := by
  intro l D c3 ad p e s m args below meth c H locs ls C hP hS hl
  exact lv_lookup C.1 C.2.1 (sw_dec hI h).1 hp (by rw [sw_ti gx]; exact ho) ht (k l D c3 ad p e s m args below meth c H locs ls C hP hS hl)
end Rows
