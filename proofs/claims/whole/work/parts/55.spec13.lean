/-! the reference: slips -/
def hg (wa ir : Nat → Nat) (mm st h0 : Nat) : Nat → Nat | 0 => h0 | k + 1 => hg wa ir mm st h0 k - (if st / 2 ^ k % 2 = 1 then 0 else rTak wa ir mm (hg wa ir mm st h0 k))
def wg (t st : Nat) : Nat → Nat | 0 => 1 | k + 1 => wg t st k * (if st / 2 ^ k % 2 = 1 then t else 10 - t)
theorem hg_le {wa ir : Nat → Nat} {mm st h0 : Nat} : ∀ k, hg wa ir mm st h0 k ≤ h0
  | 0 => Nat.le_refl _
  | k + 1 => Nat.le_trans (Nat.sub_le _ _) (hg_le k)
theorem bit_s (st k : Nat) : st / 2 ^ (k + 1) % 2 = st / 2 / 2 ^ k % 2 := by
  rw [Nat.div_div_eq_div_mul, Nat.pow_succ, Nat.mul_comm]
theorem hg_s {wa ir : Nat → Nat} {mm st h0 : Nat} : ∀ k, hg wa ir mm st h0 (k + 1) = hg wa ir mm (st / 2) (if st % 2 = 1 then h0 else h0 - rTak wa ir mm h0) k
  | 0 => by
    show h0 - (if st / 2 ^ 0 % 2 = 1 then 0 else rTak wa ir mm h0) = (if st % 2 = 1 then h0 else h0 - rTak wa ir mm h0)
    rw [Nat.pow_zero, Nat.div_one]
    split <;> rfl
  | k + 1 => by
    rw [hg, hg_s k, bit_s, hg]
theorem wg_s {t st : Nat} : ∀ k, wg t st (k + 1) = (if st % 2 = 1 then t else 10 - t) * wg t (st / 2) k
  | 0 => by
    show 1 * (if st / 2 ^ 0 % 2 = 1 then t else 10 - t) = (if st % 2 = 1 then t else 10 - t) * 1
    rw [Nat.pow_zero, Nat.div_one, Nat.mul_comm]
  | k + 1 => by
    rw [wg, wg_s k, bit_s, wg, Nat.mul_assoc]
theorem nSum_pair {g : Nat → Nat} : ∀ n, nSum g (2 * n) = nSum (fun q => g (2 * q) + g (2 * q + 1)) n
  | 0 => rfl
  | n + 1 => by
    show nSum g (2 * n + 2) = nSum _ n + (g (2 * n) + g (2 * n + 1))
    rw [← nSum_pair n]
    show nSum g (2 * n) + g (2 * n) + g (2 * n + 1) = _
    omega
theorem nSum_mul {g : Nat → Nat} {a : Nat} : ∀ n, nSum (fun q => a * g q) n = a * nSum g n
  | 0 => (Nat.mul_zero a).symm
  | n + 1 => by rw [nSum, nSum, nSum_mul n, Nat.mul_add]
theorem nSum_add {g h : Nat → Nat} : ∀ n, nSum (fun q => g q + h q) n = nSum g n + nSum h n
  | 0 => rfl
  | n + 1 => by rw [nSum, nSum, nSum, nSum_add n]; omega
theorem wg_all {t : Nat} (ht : t ≤ 10) : ∀ n, nSum (fun q => wg t q n) (2 ^ n) = 10 ^ n
  | 0 => rfl
  | n + 1 => by
    rw [Nat.pow_succ 2 n, Nat.mul_comm, nSum_pair, nSum_congr (h := fun q => 10 * wg t q n) _ (fun q _ => ?_), nSum_mul, wg_all ht n, Nat.pow_succ, Nat.mul_comm]
    show wg t (2 * q) (n + 1) + wg t (2 * q + 1) (n + 1) = 10 * wg t q n
    rw [wg_s, wg_s, if_neg (by omega), if_pos (by omega), show 2 * q / 2 = q by omega, show (2 * q + 1) / 2 = q by omega, ← Nat.add_mul, show 10 - t + t = 10 by omega]
theorem wg_out {P : PL} {wa ir ms : Nat → Nat} {mm t : Nat} (hm : rM P wa ir ms) (hk : mm < P.2.2.2.2.2.2) : ∀ n h, nSum (fun q => if hg wa ir mm q h n = 0 then wg t q n else 0) (2 ^ n) = outN P mm t n h
  | 0, h => by
    show 0 + (if h = 0 then 1 else 0) = (if h = 0 then 1 else 0)
    omega
  | n + 1, h => by
    have e : h - rTak wa ir mm h = h - takeS P mm h := by rw [rTak_eq hm hk]; omega
    rw [Nat.pow_succ 2 n, Nat.mul_comm, nSum_pair, nSum_congr (h := fun q => t * (if hg wa ir mm q h n = 0 then wg t q n else 0) + (10 - t) * (if hg wa ir mm q (h - takeS P mm h) n = 0 then wg t q n else 0)) _ (fun q _ => ?_), nSum_add, nSum_mul, nSum_mul, wg_out hm hk n h, wg_out hm hk n (h - takeS P mm h)]
    · rfl
    · show (if hg wa ir mm (2 * q) h (n + 1) = 0 then wg t (2 * q) (n + 1) else 0) + (if hg wa ir mm (2 * q + 1) h (n + 1) = 0 then wg t (2 * q + 1) (n + 1) else 0) = _
      rw [hg_s, hg_s, wg_s, wg_s, show 2 * q / 2 = q by omega, show (2 * q + 1) / 2 = q by omega, if_neg (show ¬ 2 * q % 2 = 1 by omega), if_pos (show (2 * q + 1) % 2 = 1 by omega), if_neg (show ¬ 2 * q % 2 = 1 by omega), if_pos (show (2 * q + 1) % 2 = 1 by omega), e]
      (repeat' split) <;> omega
theorem eg_gcd : ∀ k f a b, b < 2 ^ k → 2 * k + 1 ≤ f → eg f a b = Nat.gcd a b
  | 0, f + 1, a, b, hb, _ => by
    have : b = 0 := by omega
    subst this
    rw [Nat.gcd_zero_right]
    rfl
  | k + 1, f + 2, a, b, hb, hf => by
    show (if b = 0 then a else eg (f + 1) b (a % b)) = _
    by_cases q : b = 0
    · rw [if_pos q, q, Nat.gcd_zero_right]
    · rw [if_neg q]
      show (if a % b = 0 then b else eg f (a % b) (b % (a % b))) = _
      have hr : a % b < b := Nat.mod_lt _ (by omega)
      have e1 : Nat.gcd a b = Nat.gcd b (a % b) := by
        rw [Nat.gcd_comm a b, Nat.gcd_rec b a, Nat.gcd_comm]
      rw [e1]
      by_cases q2 : a % b = 0
      · rw [if_pos q2, q2, Nat.gcd_zero_right]
      · rw [if_neg q2]
        have hr2 : b % (a % b) < a % b := Nat.mod_lt _ (by omega)
        have hp : 2 ^ (k + 1) = 2 * 2 ^ k := by rw [Nat.pow_succ, Nat.mul_comm]
        have hlt : b % (a % b) < 2 ^ k := by
          by_cases q3 : 2 * (a % b) ≤ b
          · omega
          · have : b % (a % b) = b - a % b := by
              rw [Nat.mod_eq_sub_mod (by omega), Nat.mod_eq_of_lt (by omega)]
            omega
        rw [eg_gcd k f (a % b) (b % (a % b)) hlt (by omega)]
        rw [Nat.gcd_comm (a % b), ← Nat.gcd_rec, Nat.gcd_comm]
  | 0, 0, _, _, _, h => by omega
  | _ + 1, 0, _, _, _, h => by omega
  | _ + 1, 1, _, _, _, h => by omega
theorem gcd_s {a b : Nat} : Nat.gcd b (a % b) = Nat.gcd a b := by rw [Nat.gcd_comm a b, Nat.gcd_rec b a, Nat.gcd_comm]
theorem slip_g {U n : Nat} (hU : U ≤ 100000000) : eg 64 (10 ^ n) U = Nat.gcd U (10 ^ n) := by
  rw [eg_gcd 27 64 (10 ^ n) U (Nat.lt_of_le_of_lt hU (by decide)) (by omega), Nat.gcd_comm]
theorem slip_p {U n : Nat} : 0 < Nat.gcd U (10 ^ n) := Nat.gcd_pos_of_pos_right _ (Nat.pow_pos (by omega))
theorem slip_l {U n : Nat} : Nat.gcd U (10 ^ n) ≤ 10 ^ n := Nat.gcd_le_right _ (Nat.pow_pos (by omega))
