def pm_V (f : Nat → Nat) : Nat → Nat
  | 0 => 0
  | n + 1 => pm_V f n + f n * 10000 ^ n
theorem pm_V_0 (f : Nat → Nat) : pm_V f 0 = 0 := rfl
theorem pm_V_s (f : Nat → Nat) (n : Nat) : pm_V f (n + 1) = pm_V f n + f n * 10000 ^ n := rfl
def pm_fig (f : Nat → Nat) (n : Nat) : Prop := ∀ i, i < n → f i < 10000
def pm_nz (f : Nat → Nat) (n : Nat) : Prop := ∀ k, n = k + 1 → f k ≠ 0
def pm_at (wk : Nat → Nat) (b : Nat) : Nat → Nat := fun i => wk (3200 * b + i)
theorem pm_at_e (wk : Nat → Nat) (b i : Nat) : pm_at wk b i = wk (3200 * b + i) := rfl
theorem pm_P (n : Nat) : 0 < 10000 ^ n := Nat.pow_pos (by decide)
theorem pm_P_s (n : Nat) : 10000 ^ (n + 1) = 10000 ^ n * 10000 := Nat.pow_succ _ _
theorem pm_mono {a b : Nat} (h : a ≤ b) : 10000 ^ a ≤ 10000 ^ b := Nat.pow_le_pow_right (by decide) h
theorem pm_V_lt {f : Nat → Nat} {n : Nat} (h : pm_fig f n) : pm_V f n < 10000 ^ n := by
  induction n with
  | zero => rw [pm_V_0]; decide
  | succ n ih =>
    have a := ih (fun i hi => h i (by omega))
    have b : f n * 10000 ^ n ≤ 9999 * 10000 ^ n := Nat.mul_le_mul_right _ (by have := h n (by omega); omega)
    rw [pm_V_s, pm_P_s]; omega
theorem pm_V_congr {f g : Nat → Nat} {n : Nat} (h : ∀ i, i < n → f i = g i) : pm_V f n = pm_V g n := by
  induction n with
  | zero => rfl
  | succ n ih => rw [pm_V_s, pm_V_s, ih (fun i hi => h i (by omega)), h n (by omega)]
theorem pm_V_low {f : Nat → Nat} {k : Nat} (h : pm_nz f (k + 1)) : 10000 ^ k ≤ pm_V f (k + 1) := by
  have a := h k rfl
  have b : 1 * 10000 ^ k ≤ f k * 10000 ^ k := Nat.mul_le_mul_right _ (by omega)
  rw [pm_V_s]; omega
theorem pm_V_add (f : Nat → Nat) (m n : Nat) : pm_V f (m + n) = pm_V f m + 10000 ^ m * pm_V (fun i => f (m + i)) n := by
  induction n with
  | zero => rw [pm_V_0, Nat.mul_zero]; rfl
  | succ n ih =>
    rw [← Nat.add_assoc, pm_V_s, ih, pm_V_s, Nat.pow_add, Nat.mul_add, Nat.add_assoc]
    congr 1
    rw [← Nat.mul_assoc, Nat.mul_comm (f (m + n)) (10000 ^ m), Nat.mul_assoc]
theorem pm_apart {a b x y E : Nat} (ha : a < E) (hb : b < E) (h : a + x * E = b + y * E) : x = y ∧ a = b := by
  have h1 : (a + x * E) % E = a := by rw [Nat.add_mul_mod_self_right, Nat.mod_eq_of_lt ha]
  have h2 : (b + y * E) % E = b := by rw [Nat.add_mul_mod_self_right, Nat.mod_eq_of_lt hb]
  have e : a = b := by rw [← h1, ← h2, h]
  subst e
  refine ⟨?_, rfl⟩
  have : x * E = y * E := by omega
  exact Nat.eq_of_mul_eq_mul_right (by omega) this
theorem pm_V_inj {f g : Nat → Nat} {n : Nat} (hf : pm_fig f n) (hg : pm_fig g n) (h : pm_V f n = pm_V g n) : ∀ i, i < n → f i = g i := by
  induction n with
  | zero => intro i hi; omega
  | succ n ih =>
    rw [pm_V_s, pm_V_s] at h
    obtain ⟨e1, e2⟩ := pm_apart (pm_V_lt (fun i hi => hf i (by omega))) (pm_V_lt (fun i hi => hg i (by omega))) h
    intro i hi
    rcases (show i = n ∨ i < n by omega) with z | z
    · subst z; exact e1
    · exact ih (fun i hi => hf i (by omega)) (fun i hi => hg i (by omega)) e2 i z
theorem pm_cnt_le {f : Nat → Nat} {n m : Nat} (hz : pm_nz f n) (h : pm_V f n < 10000 ^ m) : n ≤ m := by
  cases n with
  | zero => omega
  | succ k =>
    have a := pm_V_low hz
    refine Nat.lt_of_not_le (fun z => ?_)
    have := pm_mono z
    omega
theorem pm_V_eq0 {f : Nat → Nat} {n : Nat} (hz : pm_nz f n) : pm_V f n = 0 ↔ n = 0 := by
  constructor
  · intro h
    have := pm_cnt_le (m := 0) hz (by rw [h]; decide)
    omega
  · intro h; subst h; rfl
theorem pm_V_up_ge {f : Nat → Nat} {k n x : Nat} (h : n ≤ k) : pm_V (pn_up f k x) n = pm_V f n := pm_V_congr (fun i hi => pn_up_n (by omega))
theorem pm_V_upS {f : Nat → Nat} {n x : Nat} : pm_V (pn_up f n x) (n + 1) = pm_V f n + x * 10000 ^ n := by rw [pm_V_s, pm_V_up_ge (Nat.le_refl n), pn_up_s]
theorem pm_V_in {f : Nat → Nat} {k n x : Nat} (h : k < n) : pm_V (pn_up f k x) n + f k * 10000 ^ k = pm_V f n + x * 10000 ^ k := by
  induction n with
  | zero => omega
  | succ n ih =>
    rcases (show k = n ∨ k < n by omega) with z | z
    · subst z; rw [pm_V_upS, pm_V_s]; omega
    · have := ih z; rw [pm_V_s, pm_V_s, pn_up_n (show n ≠ k by omega)]; omega
theorem pm_V_zero {f : Nat → Nat} {n : Nat} (h : ∀ i, i < n → f i = 0) : pm_V f n = 0 := by
  induction n with
  | zero => rfl
  | succ n ih => rw [pm_V_s, ih (fun i hi => h i (by omega)), h n (by omega), Nat.zero_mul]
theorem pm_V_more {f : Nat → Nat} {n m : Nat} (h : n ≤ m) (hz : ∀ i, n ≤ i → i < m → f i = 0) : pm_V f m = pm_V f n := by
  obtain ⟨k, rfl⟩ : ∃ k, m = n + k := ⟨m - n, by omega⟩
  rw [pm_V_add, pm_V_zero (fun i hi => hz (n + i) (by omega) (by omega)), Nat.mul_zero, Nat.add_zero]
theorem pm_V_above {f g : Nat → Nat} {k n : Nat} (hk : k ≤ n) (h : ∀ j, k ≤ j → j < n → f j = g j) : pm_V f n + pm_V g k = pm_V g n + pm_V f k := by
  obtain ⟨m, rfl⟩ : ∃ m, n = k + m := ⟨n - k, by omega⟩
  rw [pm_V_add, pm_V_add, pm_V_congr (f := fun i => f (k + i)) (g := fun i => g (k + i)) (fun i hi => h (k + i) (by omega) (by omega))]; omega
theorem pm_V_less {f g : Nat → Nat} {i : Nat} (hf : pm_fig f i) (h : f i < g i) : pm_V f (i + 1) < pm_V g (i + 1) := by
  have a := pm_V_lt hf
  have b : (f i + 1) * 10000 ^ i ≤ g i * 10000 ^ i := Nat.mul_le_mul_right _ h
  rw [Nat.add_mul, Nat.one_mul] at b
  rw [pm_V_s, pm_V_s]; omega
theorem pm_V_fewer {f g : Nat → Nat} {n m : Nat} (hf : pm_fig f n) (hg : pm_nz g m) (h : n < m) : pm_V f n < pm_V g m := by
  cases m with
  | zero => omega
  | succ k => exact Nat.lt_of_lt_of_le (pm_V_lt hf) (Nat.le_trans (pm_mono (by omega)) (pm_V_low hg))
theorem pm_at_up (wk : Nat → Nat) (b k x : Nat) : pm_at (pn_up wk (3200 * b + k) x) b = pn_up (pm_at wk b) k x := by
  funext i
  unfold pm_at
  by_cases z : i = k
  · subst z; rw [pn_up_s, pn_up_s]
  · rw [pn_up_n z, pn_up_n (by omega)]
theorem pm_at_ne {wk : Nat → Nat} {b c k x i : Nat} (h : c ≠ b) (hk : k < 3200) (hi : i < 3200) : pm_at (pn_up wk (3200 * b + k) x) c i = pm_at wk c i := by
  unfold pm_at; exact pn_up_n (by omega)
/-- slot b holds the number v -/
def pm_N (wk mn : Nat → Nat) (b v : Nat) : Prop := mn b ≤ 3200 ∧ pm_fig (pm_at wk b) (mn b) ∧ pm_nz (pm_at wk b) (mn b) ∧ pm_V (pm_at wk b) (mn b) = v
/-- slots other than b are as they were -/
def pm_fr (b : Nat) (wk wk2 : Nat → Nat) : Prop := ∀ c i, c ≠ b → i < 3200 → pm_at wk2 c i = pm_at wk c i
def pm_K (b : Nat) (wk mn wk2 mn2 : Nat → Nat) : Prop := ∀ c v, c ≠ b → pm_N wk mn c v → pm_N wk2 mn2 c v
theorem pm_fr_refl {b : Nat} {wk : Nat → Nat} : pm_fr b wk wk := fun _ _ _ _ => rfl
theorem pm_fr_up {b k x : Nat} {wk w1 : Nat → Nat} (h : pm_fr b wk w1) (hk : k < 3200) : pm_fr b wk (pn_up w1 (3200 * b + k) x) := fun c i hc hi => by rw [pm_at_ne hc hk hi]; exact h c i hc hi
theorem pm_N_congr {wk mn wk2 mn2 : Nat → Nat} {c v : Nat} (h : pm_N wk mn c v) (hm : mn2 c = mn c) (hw : ∀ i, i < mn c → pm_at wk2 c i = pm_at wk c i) : pm_N wk2 mn2 c v := by
  obtain ⟨h1, h2, h3, h4⟩ := h
  refine ⟨by rw [hm]; exact h1, fun i hi => ?_, fun k hk => ?_, ?_⟩
  · rw [hm] at hi; rw [hw i hi]; exact h2 i hi
  · rw [hm] at hk; rw [hw k (by omega)]; exact h3 k hk
  · rw [hm, pm_V_congr hw]; exact h4
theorem pm_K_of {b j : Nat} {wk mn wk2 : Nat → Nat} (h : pm_fr b wk wk2) : pm_K b wk mn wk2 (pn_up mn b j) := fun c v hc hN => pm_N_congr hN (pn_up_n hc) (fun i hi => h c i hc (by have := hN.1; omega))
theorem pm_N_of {b j n v : Nat} {wk mn : Nat → Nat} (hn : n ≤ 3200) (hf : pm_fig (pm_at wk b) n) (hj : j ≤ n) (hV : pm_V (pm_at wk b) j = pm_V (pm_at wk b) n) (hz : pm_nz (pm_at wk b) j) (hv : pm_V (pm_at wk b) n = v) : pm_N wk (pn_up mn b j) b v := by
  refine ⟨by rw [pn_up_s]; omega, ?_, ?_, ?_⟩ <;> rw [pn_up_s]
  · exact fun i hi => hf i (by omega)
  · exact hz
  · rw [hV, hv]
theorem pm_N_cnt {wk mn : Nat → Nat} {b v m : Nat} (h : pm_N wk mn b v) (hv : v < 10000 ^ m) : mn b ≤ m := pm_cnt_le h.2.2.1 (by rw [h.2.2.2]; exact hv)
theorem pm_N_lt {wk mn : Nat → Nat} {b v : Nat} (h : pm_N wk mn b v) : v < 10000 ^ mn b := by rw [← h.2.2.2]; exact pm_V_lt h.2.1
theorem pm_N_zero {wk mn : Nat → Nat} {b v : Nat} (h : pm_N wk mn b v) : mn b = 0 ↔ v = 0 := by rw [← h.2.2.2]; exact (pm_V_eq0 h.2.2.1).symm
theorem pm_fig_up {f : Nat → Nat} {n k x : Nat} (h : pm_fig f n) (hx : x < 10000) : pm_fig (pn_up f k x) n := fun i hi => by
  by_cases z : i = k
  · subst z; rw [pn_up_s]; exact hx
  · rw [pn_up_n z]; exact h i hi
theorem pm_fig_upS {f : Nat → Nat} {n x : Nat} (h : pm_fig f n) (hx : x < 10000) : pm_fig (pn_up f n x) (n + 1) := fun i hi => by
  by_cases z : i = n
  · subst z; rw [pn_up_s]; exact hx
  · rw [pn_up_n z]; exact h i (by omega)
