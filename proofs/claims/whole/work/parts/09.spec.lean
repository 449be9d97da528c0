/-! SPEC: sums, bits -/
theorem int_ind {P : Int → Prop} (h0 : P 0) (hs : ∀ k, 0 ≤ k → P k → P (k + 1)) : ∀ n, 0 ≤ n → P n := by
  intro n hn
  obtain ⟨k, rfl⟩ := Int.eq_ofNat_of_zero_le hn
  induction k with
  | zero => exact h0
  | succ k ih => exact hs k (by omega) (ih (by omega))
def sumN (f : Int → Int) : Nat → Int
  | 0 => 0
  | n + 1 => sumN f n + f n
def sm (f : Int → Int) (n : Int) : Int := sumN f n.toNat
theorem sm_0 {f : Int → Int} : sm f 0 = 0 := rfl
theorem sm_n {f : Int → Int} {n : Int} (h : n ≤ 0) : sm f n = 0 := by
  have : n.toNat = 0 := by omega
  unfold sm
  rw [this]
  rfl
theorem sm_s {f : Int → Int} {n : Int} (h : 0 ≤ n) : sm f (n + 1) = sm f n + f n := by
  obtain ⟨k, rfl⟩ := Int.eq_ofNat_of_zero_le h
  unfold sm
  have h1 : ((k : Int) + 1).toNat = k + 1 := by omega
  have h2 : ((k : Int)).toNat = k := by omega
  rw [h1, h2]
  rfl
theorem sm_c {f g : Int → Int} {n : Int} (h : ∀ k, 0 ≤ k → k < n → f k = g k) : sm f n = sm g n := by
  rcases Int.le_total n 0 with q | q
  · rw [sm_n q, sm_n q]
  · have key : ∀ m, 0 ≤ m → m ≤ n → sm f m = sm g m := int_ind (P := fun m => m ≤ n → sm f m = sm g m) (fun _ => rfl) (fun k h0 ih hk => by
      rw [sm_s h0, sm_s h0, ih (by omega), h k h0 (by omega)])
    exact key n q (Int.le_refl n)
theorem sm_le {f g : Int → Int} {n : Int} (h : ∀ k, 0 ≤ k → k < n → f k ≤ g k) : sm f n ≤ sm g n := by
  rcases Int.le_total n 0 with q | q
  · rw [sm_n q, sm_n q]; exact Int.le_refl 0
  · have key : ∀ m, 0 ≤ m → m ≤ n → sm f m ≤ sm g m := int_ind (P := fun m => m ≤ n → sm f m ≤ sm g m) (fun _ => Int.le_refl _) (fun k h0 ih hk => by
      rw [sm_s h0, sm_s h0]
      have := ih (by omega)
      have := h k h0 (by omega)
      omega)
    exact key n q (Int.le_refl n)
theorem sm_k {n c : Int} (h : 0 ≤ n) : sm (fun _ => c) n = n * c :=
  int_ind (P := fun n => sm (fun _ => c) n = n * c) (by rw [sm_0, Int.zero_mul]) (fun k h0 ih => by rw [sm_s h0, ih, Int.add_mul, Int.one_mul]) n h
theorem sm_nn {f : Int → Int} {n : Int} (h : ∀ k, 0 ≤ k → k < n → 0 ≤ f k) : 0 ≤ sm f n := by
  rcases Int.le_total n 0 with q | q
  · rw [sm_n q]; exact Int.le_refl 0
  · have h1 := sm_le (f := fun _ => 0) (g := f) (n := n) h
    rw [sm_k q, Int.mul_zero] at h1
    exact h1
theorem sm_ub {f : Int → Int} {n c : Int} (hn : 0 ≤ n) (h : ∀ k, 0 ≤ k → k < n → f k ≤ c) : sm f n ≤ n * c := by
  have h1 := sm_le (f := f) (g := fun _ => c) (n := n) h
  rw [sm_k hn] at h1
  exact h1
theorem sm_add {f g : Int → Int} {n : Int} : sm (fun k => f k + g k) n = sm f n + sm g n := by
  rcases Int.le_total n 0 with q | q
  · rw [sm_n q, sm_n q, sm_n q]; rfl
  · exact int_ind (P := fun n => sm (fun k => f k + g k) n = sm f n + sm g n) rfl (fun k h0 ih => by rw [sm_s h0, sm_s h0, sm_s h0, ih]; omega) n q
theorem sm_mono {f : Int → Int} {a b : Int} (h0 : 0 ≤ a) (h : a ≤ b) (hf : ∀ k, a ≤ k → k < b → 0 ≤ f k) : sm f a ≤ sm f b := by
  have key : ∀ d, 0 ≤ d → a + d ≤ b → sm f a ≤ sm f (a + d) := int_ind (P := fun d => a + d ≤ b → sm f a ≤ sm f (a + d)) (fun _ => by rw [Int.add_zero]; exact Int.le_refl _) (fun k hk ih hb => by
    rw [← Int.add_assoc, sm_s (by omega)]
    have := ih (by omega)
    have := hf (a + k) (by omega) (by omega)
    omega)
  have := key (b - a) (by omega) (by omega)
  rwa [show a + (b - a) = b by omega] at this
theorem sm_one {f : Int → Int} {n k : Int} (h0 : 0 ≤ k) (hk : k < n) (hf : ∀ j, 0 ≤ j → j < n → 0 ≤ f j) : f k ≤ sm f n := by
  have h1 := sm_mono (f := f) (a := k + 1) (b := n) (by omega) (by omega) (fun j a b => hf j (by omega) b)
  rw [sm_s h0] at h1
  have := sm_nn (f := f) (n := k) (fun j a b => hf j a (by omega))
  omega
-- bits
def tb (B o : Int) : Bool := B.toNat.testBit o.toNat
def pw (o : Int) : Int := ((2 ^ o.toNat : Nat) : Int)
def bsum (P : Int → Bool) (n : Int) : Int := sm (fun o => if P o then pw o else 0) n
theorem pw_pos (o : Int) : 0 < pw o := by
  unfold pw
  have := Nat.two_pow_pos o.toNat
  omega
theorem pw_s {o : Int} (h : 0 ≤ o) : pw (o + 1) = 2 * pw o := by
  unfold pw
  rw [show (o + 1).toNat = o.toNat + 1 by omega, Nat.pow_succ]
  omega
theorem pw_le {a b : Int} (h : a ≤ b) : pw a ≤ pw b := by
  unfold pw
  have := Nat.pow_le_pow_right (n := 2) (by decide) (show a.toNat ≤ b.toNat by omega)
  omega
theorem bs_0 {P : Int → Bool} : bsum P 0 = 0 := rfl
theorem bs_s {P : Int → Bool} {n : Int} (h : 0 ≤ n) : bsum P (n + 1) = bsum P n + if P n then pw n else 0 := sm_s h
theorem bs_rng {P : Int → Bool} : ∀ {n : Int}, 0 ≤ n → 0 ≤ bsum P n ∧ bsum P n < pw n := by
  intro n hn
  refine int_ind (P := fun n => 0 ≤ bsum P n ∧ bsum P n < pw n) ⟨by rw [bs_0]; omega, by rw [bs_0]; exact pw_pos 0⟩ (fun k h0 ih => ?_) n hn
  rw [bs_s h0, pw_s h0]
  have := pw_pos k
  split <;> omega
theorem bs_c {P P' : Int → Bool} {n : Int} (h : ∀ o, 0 ≤ o → o < n → P o = P' o) : bsum P n = bsum P' n := sm_c (fun k a b => by rw [h k a b])
theorem tb_bs {P : Int → Bool} {n o : Int} (hn : 0 ≤ n) (h0 : 0 ≤ o) : tb (bsum P n) o = (decide (o < n) && P o) := by
  refine int_ind (P := fun n => tb (bsum P n) o = (decide (o < n) && P o)) ?_ (fun k hk ih => ?_) n hn
  · rw [bs_0, decide_eq_false (by omega)]
    exact Nat.zero_testBit _
  · rw [bs_s hk]
    obtain ⟨r0, r1⟩ := bs_rng (P := P) hk
    by_cases hp : P k = true
    · rw [if_pos hp]
      have e : (bsum P k + pw k).toNat = 2 ^ k.toNat * 1 + (bsum P k).toNat := by
        unfold pw at *
        omega
      have hlt : (bsum P k).toNat < 2 ^ k.toNat := by
        unfold pw at *
        omega
      unfold tb at ih ⊢
      rw [e, Nat.two_pow_add_eq_or_of_lt hlt, Nat.mul_one, Nat.testBit_or, Nat.testBit_two_pow, ih]
      by_cases ho : o = k
      · subst ho
        rw [hp, decide_eq_true rfl, decide_eq_true (show o < o + 1 by omega)]
        rfl
      · rw [decide_eq_false (show ¬ k.toNat = o.toNat by omega), Bool.false_or]
        congr 1
        exact decide_eq_decide.mpr ⟨fun _ => by omega, fun _ => by omega⟩
    · rw [if_neg hp, Int.add_zero, ih]
      by_cases ho : o = k
      · subst ho
        rw [Bool.eq_false_iff.mpr hp, Bool.and_false, Bool.and_false]
      · congr 1
        exact decide_eq_decide.mpr ⟨fun _ => by omega, fun _ => by omega⟩
theorem tb_ge {B o : Int} (h1 : B < pw o) : tb B o = false := by
  unfold tb
  apply Nat.testBit_lt_two_pow
  unfold pw at h1
  have := Nat.two_pow_pos o.toNat
  omega
/-- an int that isn't below 0, by its bits -/
theorem i_nn {x : Int32} (h : 0 ≤ x.toInt) : x.toInt.toNat = x.toBitVec.toNat := by
  have h1 : x.toInt = x.toBitVec.toInt := rfl
  rw [h1] at h ⊢
  rw [BitVec.toInt_eq_toNat_cond] at h ⊢
  have := x.toBitVec.isLt
  split at h
  · rename_i q
    rw [if_pos q]
    omega
  · omega
theorem i_sg {x : Int32} : 0 ≤ x.toInt ↔ x.toBitVec.getLsbD 31 = false := by
  have h1 : x.toInt = x.toBitVec.toInt := rfl
  rw [h1, BitVec.toInt_eq_toNat_cond]
  have hl := x.toBitVec.isLt
  have e : x.toBitVec.getLsbD 31 = decide (2147483648 ≤ x.toBitVec.toNat) := by
    show x.toBitVec.toNat.testBit 31 = _
    rw [Nat.testBit_eq_decide_div_mod_eq]
    exact decide_eq_decide.mpr (by omega)
  rw [e, decide_eq_false_iff_not]
  split <;> omega
theorem tb_i {x : Int32} (h : 0 ≤ x.toInt) (o : Int) : tb x.toInt o = x.toBitVec.getLsbD o.toNat := by
  unfold tb
  rw [i_nn h]
  rfl
theorem zI_bits {a : Int} (h0 : 0 ≤ a) (h1 : a ≤ 2147483647) (i : Nat) : (zI a).toBitVec.getLsbD i = a.toNat.testBit i := by
  have h := tb_i (x := zI a) (by rw [zI_toInt ⟨by omega, h1⟩]; exact h0) i
  rw [zI_toInt ⟨by omega, h1⟩] at h
  rw [Int.toNat_natCast] at h
  rw [← h]
  unfold tb
  rw [Int.toNat_natCast]
theorem b31 {a : Int} (h0 : 0 ≤ a) (h1 : a ≤ 2147483647) : (zI a).toBitVec.getLsbD 31 = false := i_sg.mp (by rw [zI_toInt ⟨by omega, h1⟩]; exact h0)
theorem ior_nn {a b : Int} (ha : 0 ≤ a ∧ a ≤ 2147483647) (hb : 0 ≤ b ∧ b ≤ 2147483647) : 0 ≤ ior a b ∧ ior a b ≤ 2147483647 := by
  refine ⟨?_, (iR_of _).2⟩
  unfold ior
  rw [i_sg, Int32.toBitVec_or, BitVec.getLsbD_or, b31 ha.1 ha.2, b31 hb.1 hb.2]
  rfl
theorem tb_ior {a b o : Int} (ha : 0 ≤ a ∧ a ≤ 2147483647) (hb : 0 ≤ b ∧ b ≤ 2147483647) : tb (ior a b) o = (tb a o || tb b o) := by
  have h := (ior_nn ha hb).1
  unfold ior at *
  rw [tb_i h, Int32.toBitVec_or, BitVec.getLsbD_or, zI_bits ha.1 ha.2, zI_bits hb.1 hb.2]
  rfl
theorem iand_nn {a b : Int} (ha : 0 ≤ a ∧ a ≤ 2147483647) : 0 ≤ iand a b ∧ iand a b ≤ 2147483647 := by
  refine ⟨?_, (iR_of _).2⟩
  unfold iand
  rw [i_sg, Int32.toBitVec_and, BitVec.getLsbD_and, b31 ha.1 ha.2]
  rfl
theorem iand_nn2 {a b : Int} (hb : 0 ≤ b ∧ b ≤ 2147483647) : 0 ≤ iand a b ∧ iand a b ≤ 2147483647 := by
  refine ⟨?_, (iR_of _).2⟩
  unfold iand
  rw [i_sg, Int32.toBitVec_and, BitVec.getLsbD_and, b31 hb.1 hb.2, Bool.and_false]
theorem tb_iand {a b o : Int} (ha : 0 ≤ a ∧ a ≤ 2147483647) (hb : 0 ≤ b ∧ b ≤ 2147483647) : tb (iand a b) o = (tb a o && tb b o) := by
  have h := (iand_nn (b := b) ha).1
  unfold iand at *
  rw [tb_i h, Int32.toBitVec_and, BitVec.getLsbD_and, zI_bits ha.1 ha.2, zI_bits hb.1 hb.2]
  rfl
theorem bit_m1 : ∀ i, i < 32 → (zI (-1)).toBitVec.getLsbD i = true := by decide +kernel
/-- bits of a that b hasn't -/
theorem tb_iandn {a b o : Int} (ha : 0 ≤ a ∧ a ≤ 2147483647) (hb : 0 ≤ b ∧ b ≤ 2147483647) (ho : o < 32) : tb (iand a (ixor b (-1))) o = (tb a o && !tb b o) := by
  have h := (iand_nn (b := ixor b (-1)) ha).1
  unfold iand ixor at *
  rw [tb_i h, Int32.toBitVec_and, BitVec.getLsbD_and, zI_bits ha.1 ha.2, zI_of, Int32.toBitVec_xor, BitVec.getLsbD_xor, zI_bits hb.1 hb.2, bit_m1 _ (by omega), Bool.xor_true]
  rfl
theorem sh_n : ∀ n, n < 32 → ((zI (n : Nat) &&& 31).toBitVec.smod 32).toNat = n := by decide +kernel
theorem ishl_1 {k : Int} (h0 : 0 ≤ k) (h1 : k ≤ 30) : ishl 1 k = pw k := by
  obtain ⟨n, rfl⟩ := Int.eq_ofNat_of_zero_le h0
  unfold ishl
  have hp : 2 ^ n ≤ 2 ^ 30 := Nat.pow_le_pow_right (by decide) (by omega)
  have h := pk_shlN (n := 1) (zI ((n : Nat) : Int) &&& 31) n (sh_n n (by omega)) (by omega)
  have e : (zI 1 : Int32) = nI 1 := rfl
  show (zI 1 <<< (zI ((n : Nat) : Int) &&& 31)).toInt = _
  rw [e, h, Nat.one_mul, nI_toInt (by omega)]
  unfold pw
  rw [Int.toNat_natCast]
theorem ishr_d {a k : Int} (a0 : 0 ≤ a) (a1 : a ≤ 2147483647) (h0 : 0 ≤ k) (h1 : k ≤ 31) : ishr a k = a / pw k := by
  obtain ⟨n, rfl⟩ := Int.eq_ofNat_of_zero_le h0
  obtain ⟨q, rfl⟩ := Int.eq_ofNat_of_zero_le a0
  unfold ishr
  have h := pk_shrN (n := q) (by omega) (zI ((n : Nat) : Int) &&& 31) n (sh_n n (by omega))
  show (zI ((q : Nat) : Int) >>> (zI ((n : Nat) : Int) &&& 31)).toInt = _
  rw [zI_nI q, h, nI_toInt (Nat.lt_of_le_of_lt (Nat.div_le_self _ _) (by omega))]
  unfold pw
  rw [Int.toNat_natCast]
  rfl
theorem iand_1 {a : Int} (a0 : 0 ≤ a) (a1 : a ≤ 2147483647) : iand a 1 = a % 2 := by
  obtain ⟨q, rfl⟩ := Int.eq_ofNat_of_zero_le a0
  unfold iand
  have h := pk_andN (n := q) (by omega) (m := 1) 1 (by decide)
  show (zI ((q : Nat) : Int) &&& zI 1).toInt = _
  rw [zI_nI q, show (zI 1 : Int32) = 1 from rfl, h, nI_toInt (by omega)]
  omega
theorem bit_at {a k : Int} (a0 : 0 ≤ a) (a1 : a ≤ 2147483647) (h0 : 0 ≤ k) (h1 : k ≤ 31) : iand (ishr a k) 1 = bI (tb a k = true) := by
  have hp := pw_pos k
  rw [ishr_d a0 a1 h0 h1, iand_1 (Int.ediv_nonneg a0 (Int.le_of_lt hp)) (Int.le_trans (Int.ediv_le_self _ a0) a1)]
  obtain ⟨q, rfl⟩ := Int.eq_ofNat_of_zero_le a0
  unfold tb pw
  rw [Nat.testBit_eq_decide_div_mod_eq]
  show (((q / 2 ^ k.toNat % 2 : Nat)) : Int) = _
  unfold bI
  rw [Int.toNat_natCast]
  simp only [decide_eq_true_eq]
  split <;> omega
theorem bI_1 {b : Prop} [Decidable b] : bI b = 1 ↔ b := by
  unfold bI
  split
  · exact ⟨fun _ => by assumption, fun _ => rfl⟩
  · exact ⟨fun h => absurd h (by decide), fun h => absurd h (by assumption)⟩
theorem bI_n1 {b : Prop} [Decidable b] : bI b ≠ 1 ↔ ¬ b := ⟨fun h q => h (bI_1.mpr q), fun h q => h (bI_1.mp q)⟩
theorem bI_n0 {b : Prop} [Decidable b] : bI b ≠ 0 ↔ b := ⟨fun h => Decidable.not_not.mp (fun q => h (bI_eq0.mpr q)), fun h q => (bI_eq0.mp q) h⟩
theorem ior_0 {a : Int} (h : iR a) : ior a 0 = a := by
  unfold ior
  rw [show (zI 0 : Int32) = 0 from rfl, Int32.or_zero, zI_toInt h]
theorem ior_pw {a k : Int} (a0 : 0 ≤ a) (ha : a < pw k) (h0 : 0 ≤ k) (h1 : k ≤ 30) : ior a (pw k) = a + pw k := by
  have hp : pw k ≤ pw 30 := pw_le h1
  have h30 : pw 30 = 1073741824 := by decide
  have ra : 0 ≤ a ∧ a ≤ 2147483647 := ⟨a0, by omega⟩
  have rb : 0 ≤ pw k ∧ pw k ≤ 2147483647 := ⟨by have := pw_pos k; omega, by omega⟩
  obtain ⟨q, rfl⟩ := Int.eq_ofNat_of_zero_le a0
  have hn := (ior_nn ra rb).1
  have e : (ior (q : Nat) (pw k)).toNat = 2 ^ k.toNat * 1 + q := by
    apply Nat.eq_of_testBit_eq
    intro i
    have h := tb_ior (o := (i : Nat)) ra rb
    unfold tb at h
    rw [Int.toNat_natCast] at h
    rw [h]
    have hlt : q < 2 ^ k.toNat := by unfold pw at ha; omega
    rw [Nat.two_pow_add_eq_or_of_lt hlt, Nat.mul_one, Nat.testBit_or, Bool.or_comm]
    unfold pw
    rw [Int.toNat_natCast, Int.toNat_natCast]
  have h2 : ior (q : Nat) (pw k) = (((ior (q : Nat) (pw k)).toNat : Nat) : Int) := by omega
  rw [h2, e]
  unfold pw
  omega
theorem tb_pw {k o : Int} (hk : 0 ≤ k) (ho : 0 ≤ o) : tb (pw k) o = decide (o = k) := by
  unfold tb pw
  rw [Int.toNat_natCast, Nat.testBit_two_pow]
  exact decide_eq_decide.mpr (by omega)
/-- how many bits of n's lowest f -/
def pcN : Nat → Nat → Nat
  | 0, _ => 0
  | f + 1, n => n % 2 + pcN f (n / 2)
theorem pcN_0 : ∀ f, pcN f 0 = 0
  | 0 => rfl
  | f + 1 => by
    show 0 % 2 + pcN f (0 / 2) = 0
    rw [pcN_0 f]
theorem pcN_low : ∀ (f n : Nat), 0 < n → n < 2 ^ f → pcN f (n &&& (n - 1)) + 1 = pcN f n
  | 0, n, h0, h1 => by omega
  | f + 1, n, h0, h1 => by
    show (n &&& (n - 1)) % 2 + pcN f ((n &&& (n - 1)) / 2) + 1 = n % 2 + pcN f (n / 2)
    have hm : (n &&& (n - 1)) % 2 = 0 := by
      have h2 := Nat.mod_two_eq_zero_or_one (n &&& (n - 1))
      rcases h2 with h2 | h2
      · exact h2
      · have h3 := Nat.and_mod_two_eq_one.mp h2
        omega
    rw [hm, Nat.and_div_two]
    rw [Nat.pow_succ] at h1
    rcases Nat.mod_two_eq_zero_or_one n with h2 | h2
    · have e : (n - 1) / 2 = n / 2 - 1 := by omega
      have ih := pcN_low f (n / 2) (by omega) (by omega)
      rw [e, h2]
      omega
    · have e : (n - 1) / 2 = n / 2 := by omega
      rw [e, Nat.and_self, h2]
      omega
def pc (B : Int) : Int := (pcN 32 B.toNat : Nat)
theorem pcN_le : ∀ f n, pcN f n ≤ f
  | 0, _ => Nat.le_refl 0
  | f + 1, n => by
    show n % 2 + pcN f (n / 2) ≤ f + 1
    have := pcN_le f (n / 2)
    omega
theorem pc_rng (B : Int) : 0 ≤ pc B ∧ pc B ≤ 32 := by
  unfold pc
  have := pcN_le 32 B.toNat
  omega
theorem pc_0 : pc 0 = 0 := by unfold pc; rw [show (0 : Int).toNat = 0 from rfl, pcN_0]; rfl
theorem pc_low {B : Int} (h0 : 0 < B) (h1 : B ≤ 2147483647) : pc (iand B (B - 1)) + 1 = pc B := by
  have e : (iand B (B - 1)).toNat = B.toNat &&& (B.toNat - 1) := by
    apply Nat.eq_of_testBit_eq
    intro i
    have h := tb_iand (a := B) (b := B - 1) (o := (i : Nat)) ⟨by omega, h1⟩ ⟨by omega, by omega⟩
    unfold tb at h
    rw [Int.toNat_natCast] at h
    rw [h, Nat.testBit_and, show (B - 1).toNat = B.toNat - 1 by omega]
  unfold pc
  rw [e]
  have := pcN_low 32 B.toNat (by omega) (by omega)
  omega
theorem pcN_sum : ∀ (f n : Nat), ((pcN f n : Nat) : Int) = sm (fun o => bI (n.testBit o.toNat = true)) f
  | 0, _ => rfl
  | f + 1, n => by
    have key : ∀ m : Nat, sm (fun o => bI (n.testBit o.toNat = true)) ((m : Int) + 1) = bI (n.testBit 0 = true) + sm (fun o => bI ((n / 2).testBit o.toNat = true)) m := by
      intro m
      induction m with
      | zero => 
        rw [sm_s (by omega), show ((0 : Nat) : Int) = 0 from rfl, sm_0, sm_0]
        exact Int.add_comm _ _
      | succ m ih =>
        rw [sm_s (by omega), show ((m + 1 : Nat) : Int) = (m : Int) + 1 from rfl, ih, sm_s (f := fun o => bI ((n / 2).testBit o.toNat = true)) (by omega)]
        have e : ((m : Int) + 1).toNat = m + 1 := by omega
        have e2 : ((m : Int)).toNat = m := by omega
        rw [e, e2, Nat.testBit_succ]
        omega
    show ((n % 2 + pcN f (n / 2) : Nat) : Int) = sm _ ((f : Int) + 1)
    rw [key f, ← pcN_sum f (n / 2)]
    have h0 : bI (n.testBit 0 = true) = ((n % 2 : Nat) : Int) := by
      rw [Nat.testBit_zero]
      unfold bI
      simp only [decide_eq_true_eq]
      split <;> omega
    rw [h0]
    omega
theorem pc_sum (B : Int) : pc B = sm (fun o => bI (tb B o = true)) 32 := pcN_sum 32 B.toNat
