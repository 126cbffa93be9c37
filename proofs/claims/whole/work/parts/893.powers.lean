/-! sums; powers of a table's numbers -/
def a8 (s : Nat) (r : Nat → Nat) (i j : Nat) : Nat := if i < s ∧ j < s then r (i * s + j) else 0
def Pw (s : Nat) (r : Nat → Nat) : Nat → Nat → Nat → Nat
  | 0 => fun i j => if i = j then 1 else 0
  | n + 1 => fun i j => sm (fun t => Pw s r n i t * a8 s r t j) 8
def TR (P s : Nat) (r : Nat → Nat) (n : Nat) : Nat := sm (fun i => Pw s r n i i) 8 % P
def coT (P s : Nat) (r : Nat → Nat) : Nat → Nat → Nat
  | 0 => fun _ => 1
  | n + 1 => fu (coT P s r n) (n + 1) ((0 + P - sm (fun u => coT P s r n (n - u) * TR P s r (u + 1)) (n + 1) % P) % P * ((n + 1) ^ (P - 2) % P) % P)
def co (P s : Nat) (r : Nat → Nat) (n : Nat) : Nat := coT P s r n n
def Gx (P s : Nat) (r : Nat → Nat) (n i j : Nat) : Nat := sm (fun t => co P s r (n - 1 - t) * Pw s r (t + 1) i j) n % P
def Fx (P s : Nat) (r : Nat → Nat) (n i j : Nat) : Nat := sm (fun t => co P s r (n - 1 - t) * Pw s r t i j) n % P
section PW
variable {P s : Nat} {r : Nat → Nat}
theorem sm_add (f g : Nat → Nat) : ∀ n, sm (fun t => f t + g t) n = sm f n + sm g n
  | 0 => rfl
  | n + 1 => by rw [sm_s, sm_s, sm_s, sm_add f g n]; omega
theorem sm_mulL (c : Nat) (f : Nat → Nat) : ∀ n, sm (fun t => c * f t) n = c * sm f n
  | 0 => rfl
  | n + 1 => by rw [sm_s, sm_s, sm_mulL c f n, Nat.mul_add]
theorem sm_mulR (c : Nat) (f : Nat → Nat) : ∀ n, sm (fun t => f t * c) n = sm f n * c
  | 0 => (Nat.zero_mul c).symm
  | n + 1 => by rw [sm_s, sm_s, sm_mulR c f n, Nat.add_mul]
theorem sm_zero : ∀ n, sm (fun _ => 0) n = 0
  | 0 => rfl
  | n + 1 => by rw [sm_s, sm_zero n]
theorem sm_swap (f : Nat → Nat → Nat) (m : Nat) : ∀ n, sm (fun i => sm (fun j => f i j) m) n = sm (fun j => sm (fun i => f i j) n) m
  | 0 => (sm_zero m).symm
  | n + 1 => by
    rw [sm_s, sm_swap f m n, ← sm_add]
    rfl
theorem sm_shift (f : Nat → Nat) : ∀ n, sm f (n + 1) = f 0 + sm (fun t => f (t + 1)) n
  | 0 => by rw [sm_s]; show 0 + f 0 = f 0 + 0; omega
  | n + 1 => by rw [sm_s, sm_shift f n, sm_s]; omega
theorem sm_cut {f : Nat → Nat} {s : Nat} : ∀ d, (∀ t, s ≤ t → t < s + d → f t = 0) → sm f (s + d) = sm f s
  | 0, _ => rfl
  | d + 1, h => by
    rw [show s + (d + 1) = s + d + 1 from rfl, sm_s, sm_cut d (fun t h1 h2 => h t h1 (by omega)), h (s + d) (by omega) (by omega), Nat.add_zero]
theorem sm_cong {f g : Nat → Nat} : ∀ {n : Nat}, (∀ t, t < n → f t % P = g t % P) → sm f n % P = sm g n % P
  | 0, _ => rfl
  | n + 1, h => by
    rw [sm_s, sm_s, Nat.add_mod, sm_cong (fun t ht => h t (by omega)), h n (by omega), ← Nat.add_mod]
theorem sm_dl {f : Nat → Nat} {i n : Nat} (h : i < n) : sm (fun t => (if i = t then 1 else 0) * f t) n = f i := by
  induction n with
  | zero => omega
  | succ n ih =>
    rw [sm_s]
    by_cases e : i = n
    · subst e
      rw [if_pos rfl, Nat.one_mul, show sm (fun t => (if i = t then 1 else 0) * f t) i = 0 from ?_, Nat.zero_add]
      rw [sm_congr (h := fun _ => 0) (fun j hj => by rw [if_neg (by omega), Nat.zero_mul]), sm_zero]
    · rw [ih (by omega), if_neg e, Nat.zero_mul, Nat.add_zero]
theorem Pw_s (n i j : Nat) : Pw s r (n + 1) i j = sm (fun t => Pw s r n i t * a8 s r t j) 8 := rfl
theorem Pw_1 {i j : Nat} (hi : i < 8) : Pw s r 1 i j = a8 s r i j := by
  rw [Pw_s]
  exact sm_dl (f := fun t => a8 s r t j) hi
theorem Pw_l : ∀ n {i j : Nat}, i < 8 → j < 8 → sm (fun t => a8 s r i t * Pw s r n t j) 8 = Pw s r (n + 1) i j
  | 0, i, j, hi, hj => by
    rw [Pw_1 hi]
    have e := sm_dl (f := fun t => a8 s r i t) hj
    rw [← e]
    apply sm_congr
    intro t ht
    show a8 s r i t * (if t = j then 1 else 0) = _
    rw [Nat.mul_comm]
    by_cases e2 : t = j
    · rw [if_pos e2, if_pos e2.symm]
    · rw [if_neg e2, if_neg (Ne.symm e2)]
  | n + 1, i, j, hi, hj => by
    have e : (fun t => a8 s r i t * Pw s r (n + 1) t j) = fun t => sm (fun u => a8 s r i t * (Pw s r n t u * a8 s r u j)) 8 := by
      funext t
      rw [Pw_s, ← sm_mulL]
    rw [e, sm_swap]
    rw [Pw_s (n + 1)]
    apply sm_congr
    intro u hu
    rw [← Pw_l n hi hu, ← sm_mulR]
    apply sm_congr
    intro t ht
    rw [Nat.mul_assoc]
theorem a8_0 {i j : Nat} (h : s ≤ j) : a8 s r i j = 0 := if_neg (by omega)
theorem a8_in {i j : Nat} (hi : i < s) (hj : j < s) : a8 s r i j = r (i * s + j) := if_pos ⟨hi, hj⟩
theorem Pw_0 {n i j : Nat} (h : s ≤ j) : Pw s r (n + 1) i j = 0 := by
  rw [Pw_s, sm_congr (h := fun _ => 0) (fun t _ => by rw [a8_0 h, Nat.mul_zero]), sm_zero]
theorem coT_le : ∀ N j, j ≤ N → coT P s r N j = co P s r j
  | 0, j, h => by
    have e : j = 0 := by omega
    subst e
    rfl
  | N + 1, j, h => by
    by_cases e : j = N + 1
    · subst e
      rfl
    · rw [show coT P s r (N + 1) j = coT P s r N j from fu_ne e]
      exact coT_le N j (by omega)
theorem co_0 : co P s r 0 = 1 := rfl
theorem co_s (n : Nat) : co P s r (n + 1) = (0 + P - sm (fun u => co P s r (n - u) * TR P s r (u + 1)) (n + 1) % P) % P * ((n + 1) ^ (P - 2) % P) % P := by
  rw [show co P s r (n + 1) = (0 + P - sm (fun u => coT P s r n (n - u) * TR P s r (u + 1)) (n + 1) % P) % P * ((n + 1) ^ (P - 2) % P) % P from fu_eq _ _ _]
  rw [sm_congr (fun u _ => by rw [coT_le n (n - u) (by omega)])]
theorem co_lt (h0 : 1 < P) : ∀ n, co P s r n < P
  | 0 => h0
  | n + 1 => by rw [co_s]; exact Nat.mod_lt _ (by omega)
theorem Gx_0 (i j : Nat) : Gx P s r 0 i j = 0 := Nat.zero_mod P
theorem FG_d (n i : Nat) : (Gx P s r n i i + co P s r n) % P = Fx P s r (n + 1) i i := by
  unfold Gx Fx
  rw [sm_shift, Nat.mod_add_mod, Nat.add_comm, show Pw s r 0 i i = 1 from if_pos rfl, Nat.mul_one]
  congr 2
  apply sm_congr
  intro t ht
  rw [show n + 1 - 1 - (t + 1) = n - 1 - t by omega]
theorem FG_o {n i j : Nat} (h : ¬ i = j) : Gx P s r n i j = Fx P s r (n + 1) i j := by
  unfold Gx Fx
  rw [sm_shift, show Pw s r 0 i j = 0 from if_neg h, Nat.mul_zero, Nat.zero_add]
  congr 1
  apply sm_congr
  intro t ht
  rw [show n + 1 - 1 - (t + 1) = n - 1 - t by omega]
theorem FG_m {n i j : Nat} (hs : s ≤ 8) (hi : i < s) (hj : j < s) : sm (fun k => r (i * s + k) * Fx P s r n k j) s % P = Gx P s r n i j := by
  unfold Gx
  have e1 : sm (fun k => r (i * s + k) * Fx P s r n k j) s % P = sm (fun k => a8 s r i k * sm (fun t => co P s r (n - 1 - t) * Pw s r t k j) n) s % P := by
    apply sm_cong
    intro k hk
    rw [a8_in hi hk]
    unfold Fx
    rw [Nat.mul_mod_mod]
  have e2 : sm (fun k => a8 s r i k * sm (fun t => co P s r (n - 1 - t) * Pw s r t k j) n) s = sm (fun k => a8 s r i k * sm (fun t => co P s r (n - 1 - t) * Pw s r t k j) n) 8 := by
    have := sm_cut (f := fun k => a8 s r i k * sm (fun t => co P s r (n - 1 - t) * Pw s r t k j) n) (s := s) (8 - s) (fun t h1 _ => by rw [a8_0 h1, Nat.zero_mul])
    rw [show s + (8 - s) = 8 by omega] at this
    exact this.symm
  have e3 : (fun k => a8 s r i k * sm (fun t => co P s r (n - 1 - t) * Pw s r t k j) n) = fun k => sm (fun t => a8 s r i k * (co P s r (n - 1 - t) * Pw s r t k j)) n := by
    funext k
    rw [sm_mulL]
  rw [e1, e2, e3, sm_swap]
  congr 1
  apply sm_congr
  intro t ht
  rw [← Pw_l t (show i < 8 by omega) (show j < 8 by omega), ← sm_mulL]
  apply sm_congr
  intro k hk
  rw [← Nat.mul_assoc, ← Nat.mul_assoc, Nat.mul_comm (a8 s r i k)]
theorem FG_t {n : Nat} (hs : s ≤ 8) : sm (fun i => Gx P s r n i i) s % P = sm (fun u => co P s r (n - 1 - u) * TR P s r (u + 1)) n % P := by
  have e1 : sm (fun i => Gx P s r n i i) s % P = sm (fun i => sm (fun t => co P s r (n - 1 - t) * Pw s r (t + 1) i i) n) s % P := by
    apply sm_cong
    intro i hi
    unfold Gx
    rw [Nat.mod_mod]
  rw [e1, sm_swap]
  apply sm_cong
  intro t ht
  have e2 : sm (fun i => co P s r (n - 1 - t) * Pw s r (t + 1) i i) s = co P s r (n - 1 - t) * sm (fun i => Pw s r (t + 1) i i) 8 := by
    rw [sm_mulL]
    congr 1
    have := sm_cut (f := fun i => Pw s r (t + 1) i i) (s := s) (8 - s) (fun u h1 _ => Pw_0 h1)
    rw [show s + (8 - s) = 8 by omega] at this
    exact this.symm
  rw [e2]
  unfold TR
  rw [Nat.mul_mod_mod]
/-! as the reference sums a diagonal -/
def dgS (P s : Nat) (r : Nat → Nat) (n q : Nat) : Nat := if q / 8 = q % 8 then Pw s r n (q / 8) (q % 8) % P else 0
theorem dg_TR (n : Nat) : sm (dgS P s r n) 64 % P = TR P s r n := by
  have e : sm (dgS P s r n) 64 = sm (fun i => Pw s r n i i % P) 8 := by
    simp [sm, dgS]
  rw [e]
  unfold TR
  exact sm_cong (fun t _ => Nat.mod_mod _ _)
theorem Pw_m {n i j : Nat} : sm (fun t => Pw s r n i t % P * a8 s r t j) 8 % P = Pw s r (n + 1) i j % P := by
  rw [Pw_s]
  apply sm_cong
  intro t _
  rw [Nat.mod_mul_mod]
end PW
