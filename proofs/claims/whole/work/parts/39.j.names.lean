/-! PURE: names out of bytes on both sides. -/
def PC (B : Nat → Nat) : Nat → Nat
  | 0 => 0
  | i + 1 => 2 ^ 8 * PC B i + B i
def PR (B : Nat → Nat) : Nat → Nat
  | 0 => 0
  | i + 1 => PR B i * 27 + (B i - 96)
theorem PC_lt {B : Nat → Nat} (h : ∀ i, i < 4 → B i ≤ 122) {i : Nat} (hi : i ≤ 4) : PC B i < 2147483648 := by
  have h0 := h 0 (by decide)
  have h1 := h 1 (by decide)
  have h2 := h 2 (by decide)
  have h3 := h 3 (by decide)
  rcases (show i = 0 ∨ i = 1 ∨ i = 2 ∨ i = 3 ∨ i = 4 by omega) with rfl | rfl | rfl | rfl | rfl
  · show 0 < 2147483648; decide
  · show 2 ^ 8 * 0 + B 0 < 2147483648; omega
  · show 2 ^ 8 * (2 ^ 8 * 0 + B 0) + B 1 < 2147483648; omega
  · show 2 ^ 8 * (2 ^ 8 * (2 ^ 8 * 0 + B 0) + B 1) + B 2 < 2147483648; omega
  · show 2 ^ 8 * (2 ^ 8 * (2 ^ 8 * (2 ^ 8 * 0 + B 0) + B 1) + B 2) + B 3 < 2147483648; omega
theorem PR_lt {B : Nat → Nat} (h : ∀ i, i < 4 → B i ≤ 122) {i : Nat} (hi : i ≤ 4) : PR B i < 600000 := by
  have h0 := h 0 (by decide)
  have h1 := h 1 (by decide)
  have h2 := h 2 (by decide)
  have h3 := h 3 (by decide)
  rcases (show i = 0 ∨ i = 1 ∨ i = 2 ∨ i = 3 ∨ i = 4 by omega) with rfl | rfl | rfl | rfl | rfl
  · show 0 < 600000; decide
  · show 0 * 27 + (B 0 - 96) < 600000; omega
  · show (0 * 27 + (B 0 - 96)) * 27 + (B 1 - 96) < 600000; omega
  · show ((0 * 27 + (B 0 - 96)) * 27 + (B 1 - 96)) * 27 + (B 2 - 96) < 600000; omega
  · show (((0 * 27 + (B 0 - 96)) * 27 + (B 1 - 96)) * 27 + (B 2 - 96)) * 27 + (B 3 - 96) < 600000; omega
/-- what stands in a stretch, by numbers; behind it nothing -/
def bts (mi : Nat → Int32) (a L : Nat) : Nat → Nat := fun i => if i < L then (mi (a + i)).toInt.toNat else 96
theorem bts_out {mi : Nat → Int32} {a L i : Nat} (h : L ≤ i) : bts mi a L i = 96 := if_neg (by omega)
theorem bts_at {mi : Nat → Int32} {a L i : Nat} (hA : ALLB mi 97 122 a (a + L)) (hi : i < L) : (mi (a + i)).toInt = ((bts mi a L i : Nat) : Int) ∧ 97 ≤ bts mi a L i ∧ bts mi a L i ≤ 122 := by
  have h := hA (a + i) (by omega) (by omega)
  unfold bts
  rw [if_pos hi]
  omega
theorem bts_le {mi : Nat → Int32} {a L : Nat} (hA : ALLB mi 97 122 a (a + L)) (i : Nat) : 96 ≤ bts mi a L i ∧ bts mi a L i ≤ 122 := by
  by_cases hi : i < L
  · have := (bts_at hA hi).2
    omega
  · rw [bts_out (by omega)]
    omega
theorem nb_all {n : Nat} {ic ml y : Int32} {ib mi : Nat → Int32} {a L : Nat} (h : INPn n ic ib ml mi) (hy : y.toInt = ((a + L : Nat) : Int)) (haL : a + L ≤ n) (hL : L ≤ 4) (hA : ALLB mi 97 122 a (a + L)) : ∀ (f i : Nat) (x : Int32), x.toInt = ((a + i : Nat) : Int) → i ≤ L → L < i + f → f_X0_nameBetween_L19 600 ic ib y f 1 (Int32.ofNat (PC (bts mi a L) i)) x = some (1, Int32.ofNat (PC (bts mi a L) L)) := by
  have hn := h.2.1
  intro f
  induction f with
  | zero => intro i x hx hi hf; omega
  | succ f ih =>
    intro i x hx hi hf
    rw [f_X0_nameBetween_L19, if_neg (show ¬ (1 : Int32) = 0 by decide)]
    by_cases hk : i < L
    · obtain ⟨b1, b2, b3⟩ := bts_at hA hk
      have hx2 : (x + 1).toInt = ((a + (i + 1) : Nat) : Int) := by rw [ti_inc hx (by omega)]; omega
      rw [if_neg (by rw [ti_le hy hx]; omega)]
      simp only [at_c h hx, ob_some, byt_in (mi := mi) (show a + i < n by omega)]
      rw [if_neg (by rw [ti_lt b1 (b := 97) (by decide)]; omega), if_neg (by rw [ti_lt (a := 122) (by decide) b1]; omega)]
      show f_X0_nameBetween_L19 600 ic ib y f 1 ((Int32.ofNat (PC (bts mi a L) i) <<< ((8 : Int32) &&& 31)) ||| mi (a + i)) (x + 1) = _
      rw [ofNat_of b1, shl8_or (by omega)]
      exact ih (i + 1) (x + 1) hx2 hk (by omega)
    · rw [if_pos (by rw [ti_le hy hx]; omega), show i = L by omega]
theorem nb_zero {ic y v x : Int32} {ib : Nat → Int32} {f : Nat} (hf : 0 < f) : f_X0_nameBetween_L19 600 ic ib y f 0 v x = some (0, v) := by
  match f, hf with
  | f + 1, _ => rw [f_X0_nameBetween_L19, if_pos rfl]
/-- a stretch with a byte that is no letter -/
theorem nb_bad {n : Nat} {ic ml y : Int32} {ib mi : Nat → Int32} {b : Nat} (h : INPn n ic ib ml mi) (hy : y.toInt = (b : Int)) (hb : b ≤ n) : ∀ (f p : Nat) (x v : Int32), x.toInt = (p : Int) → p ≤ b → b < p + f → (∃ k, p ≤ k ∧ k < b ∧ ¬ (97 ≤ (mi k).toInt ∧ (mi k).toInt ≤ 122)) → ∃ v', f_X0_nameBetween_L19 600 ic ib y f 1 v x = some (0, v') := by
  have hn := h.2.1
  intro f
  induction f with
  | zero => intro p x v hx hp hf; omega
  | succ f ih =>
    intro p x v hx hp hf hbad
    obtain ⟨k, k1, k2, k3⟩ := hbad
    have hx2 := ti_inc hx (by omega)
    have hpn : p < n := by omega
    rw [f_X0_nameBetween_L19, if_neg (show ¬ (1 : Int32) = 0 by decide), if_neg (by rw [ti_le hy hx]; omega)]
    simp only [at_c h hx, ob_some, byt_in hpn]
    by_cases h1 : mi p < 97
    · rw [if_pos h1]
      exact ⟨_, nb_zero (by omega)⟩
    · rw [if_neg h1]
      by_cases h2 : 122 < mi p
      · rw [if_pos h2]
        exact ⟨_, nb_zero (by omega)⟩
      · rw [if_neg h2]
        rw [ti_lt rfl (b := 97) (by decide)] at h1
        rw [ti_lt (a := 122) (by decide) rfl] at h2
        have hpk : p ≠ k := fun e => k3 (by rw [← e]; omega)
        exact ih (p + 1) (x + 1) _ hx2 (by omega) (by omega) ⟨k, by omega, k2, k3⟩
theorem nf_all {n : Nat} {ic ml s l : Int32} {ib mi : Nat → Int32} {a L : Nat} (h : INPn n ic ib ml mi) (hs : s.toInt = (a : Int)) (hl : l.toInt = (L : Int)) (haL : a + L ≤ n) (hL : L ≤ 4) (hA : ALLB mi 97 122 a (a + L)) : ∀ (f i : Nat) (x : Int32), x.toInt = (i : Int) → i ≤ 4 → 4 < i + f → f_X12_nameFrom_L16 mi s l f (Int32.ofNat (PR (bts mi a L) i)) x = some (Int32.ofNat (PR (bts mi a L) 4)) := by
  have hn := h.2.1
  have hB : ∀ i, i < 4 → bts mi a L i ≤ 122 := fun i _ => (bts_le hA i).2
  have h27 : (27 : Int32).toInt = 27 := by decide
  have h96 : (96 : Int32).toInt = 96 := by decide
  intro f
  induction f with
  | zero => intro i x hx hi hf; omega
  | succ f ih =>
    intro i x hx hi hf
    rw [f_X12_nameFrom_L16]
    by_cases h4 : i = 4
    · rw [if_pos (by rw [ti_le (a := 4) (by decide) hx]; omega), h4]
    · rw [if_neg (by rw [ti_le (a := 4) (by decide) hx]; omega)]
      have hx2 := ti_inc hx (by omega)
      have hrec := ih (i + 1) (x + 1) hx2 (by omega) (by omega)
      have e1 := PR_lt hB (i := i) (by omega)
      have e2 : (Int32.ofNat (PR (bts mi a L) i) * 27).toInt = (PR (bts mi a L) i : Int) * 27 := ti_mul (ti_nat (by omega)) h27 (by omega) (by omega)
      by_cases hk : i < L
      · obtain ⟨b1, b2, b3⟩ := bts_at hA hk
        have hsx : (s + x).toInt = ((a + i : Nat) : Int) := off_ti hs hx (by omega)
        rw [if_neg (by rw [ti_le hl hx]; omega), if_neg (by rw [ti_le hl hx]; omega), rd_at hsx (by omega)]
        simp only [ob_some, f_X12_isLetter, between_m (v := mi (a + i)) b1 (lo := 97) (hi := 122) (l := 97) (u := 122) (by decide) (by decide), if_pos (show (97 : Int) ≤ ((bts mi a L i : Nat) : Int) ∧ ((bts mi a L i : Nat) : Int) ≤ 122 by omega)]
        have e3 : (mi (a + i) - 96).toInt = ((bts mi a L i - 96 : Nat) : Int) := by rw [ti_sub b1 h96 (by omega) (by omega)]; omega
        have e4 : (Int32.ofNat (PR (bts mi a L) i) * 27 + (mi (a + i) - 96)).toInt = ((PR (bts mi a L) (i + 1) : Nat) : Int) := by
          rw [ti_add e2 e3 (by omega) (by omega)]
          show _ = ((PR (bts mi a L) i * 27 + (bts mi a L i - 96) : Nat) : Int)
          omega
        show f_X12_nameFrom_L16 mi s l f (Int32.ofNat (PR (bts mi a L) i) * 27 + (mi (a + i) - 96)) (x + 1) = _
        rw [ofNat_of e4]
        exact hrec
      · have hout : bts mi a L i = 96 := bts_out (by omega)
        rw [if_pos (by rw [ti_le hl hx]; omega), if_pos (by rw [ti_le hl hx]; omega)]
        have e4 : (Int32.ofNat (PR (bts mi a L) i) * 27 + 0).toInt = ((PR (bts mi a L) (i + 1) : Nat) : Int) := by
          rw [ti_add e2 ti_zero (by omega) (by omega)]
          show _ = ((PR (bts mi a L) i * 27 + (bts mi a L i - 96) : Nat) : Int)
          omega
        show f_X12_nameFrom_L16 mi s l f (Int32.ofNat (PR (bts mi a L) i) * 27 + 0) (x + 1) = _
        rw [ofNat_of e4]
        exact hrec
theorem nf_bad {n : Nat} {ic ml s l : Int32} {ib mi : Nat → Int32} {a L : Nat} (h : INPn n ic ib ml mi) (hs : s.toInt = (a : Int)) (hl : l.toInt = (L : Int)) (haL : a + L ≤ n) (hL : L ≤ 4) : ∀ (f i : Nat) (x v : Int32), x.toInt = (i : Int) → i ≤ 4 → 4 < i + f → (∃ k, a + i ≤ k ∧ k < a + L ∧ ¬ (97 ≤ (mi k).toInt ∧ (mi k).toInt ≤ 122)) → f_X12_nameFrom_L16 mi s l f v x = some (-1) := by
  have hn := h.2.1
  intro f
  induction f with
  | zero => intro i x v hx hi hf; omega
  | succ f ih =>
    intro i x v hx hi hf hbad
    obtain ⟨k, k1, k2, k3⟩ := hbad
    have hx2 := ti_inc hx (by omega)
    have hsx : (s + x).toInt = ((a + i : Nat) : Int) := off_ti hs hx (by omega)
    rw [f_X12_nameFrom_L16, if_neg (by rw [ti_le (a := 4) (by decide) hx]; omega), if_neg (by rw [ti_le hl hx]; omega), if_neg (by rw [ti_le hl hx]; omega), rd_at hsx (by omega)]
    simp only [ob_some, f_X12_isLetter, between_m (v := mi (a + i)) rfl (lo := 97) (hi := 122) (l := 97) (u := 122) (by decide) (by decide)]
    by_cases hc : 97 ≤ (mi (a + i)).toInt ∧ (mi (a + i)).toInt ≤ 122
    · rw [if_pos hc]
      have hpk : a + i ≠ k := fun e => k3 (by rw [← e]; exact hc)
      exact ih (i + 1) (x + 1) _ hx2 (by omega) (by omega) ⟨k, by omega, k2, k3⟩
    · rw [if_neg hc]
      rfl
theorem nameFrom_out {s l : Int32} {mi : Nat → Int32} {L : Nat} (hl : l.toInt = (L : Int)) (h : L = 0 ∨ 4 < L) : f_X12_nameFrom mi s l = some (-1) := by
  unfold f_X12_nameFrom
  rw [between_m hl (l := 1) (u := 4) (by decide) (by decide), if_neg (by omega)]
  rfl
theorem nameFrom_in {s l : Int32} {mi : Nat → Int32} {L : Nat} (hl : l.toInt = (L : Int)) (h : 1 ≤ L) (h4 : L ≤ 4) : f_X12_nameFrom mi s l = f_X12_nameFrom_L16 mi s l 5000 0 0 := by
  unfold f_X12_nameFrom
  rw [between_m hl (l := 1) (u := 4) (by decide) (by decide), if_pos (by omega)]
  rfl
theorem NAME_of {mi : Nat → Int32} {a L : Nat} (h1 : 1 ≤ L) (hL : L ≤ 4) (hA : ALLB mi 97 122 a (a + L)) : NAME (Int32.ofNat (PC (bts mi a L) L)) (Int32.ofNat (PR (bts mi a L) 4)) := by
  have hB : ∀ i, i < 4 → bts mi a L i ≤ 122 := fun i _ => (bts_le hA i).2
  have c0 := bts_le hA 0
  have c1 := bts_le hA 1
  have c2 := bts_le hA 2
  have c3 := bts_le hA 3
  have i0 : 0 < L → 97 ≤ bts mi a L 0 := fun z => (bts_at hA z).2.1
  have i1 : 1 < L → 97 ≤ bts mi a L 1 := fun z => (bts_at hA z).2.1
  have i2 : 2 < L → 97 ≤ bts mi a L 2 := fun z => (bts_at hA z).2.1
  have i3 : 3 < L → 97 ≤ bts mi a L 3 := fun z => (bts_at hA z).2.1
  have o1 : L ≤ 1 → bts mi a L 1 = 96 := bts_out
  have o2 : L ≤ 2 → bts mi a L 2 = 96 := bts_out
  have o3 : L ≤ 3 → bts mi a L 3 = 96 := bts_out
  have e1 : (Int32.ofNat (PR (bts mi a L) 4)).toInt = ((PR (bts mi a L) 4 : Nat) : Int) := ti_nat (by have := PR_lt hB (i := 4) (by omega); omega)
  have e2 : PR (bts mi a L) 4 = (((0 * 27 + (bts mi a L 0 - 96)) * 27 + (bts mi a L 1 - 96)) * 27 + (bts mi a L 2 - 96)) * 27 + (bts mi a L 3 - 96) := rfl
  have e3 : (Int32.ofNat (PC (bts mi a L) L)).toInt = ((PC (bts mi a L) L : Nat) : Int) := ti_nat (PC_lt hB hL)
  refine ⟨bts mi a L 0 - 96, bts mi a L 1 - 96, bts mi a L 2 - 96, bts mi a L 3 - 96, by omega, by omega, by omega, by omega, by omega, by omega, by omega, by rw [e1]; omega, ?_⟩
  rw [e3]
  rcases (show L = 1 ∨ L = 2 ∨ L = 3 ∨ L = 4 by omega) with hl | hl | hl | hl
  · have e4 : PC (bts mi a L) L = 2 ^ 8 * 0 + bts mi a L 0 := by rw [hl]; rfl
    exact Or.inl ⟨by omega, by omega⟩
  · have e4 : PC (bts mi a L) L = 2 ^ 8 * (2 ^ 8 * 0 + bts mi a L 0) + bts mi a L 1 := by rw [hl]; rfl
    exact Or.inr (Or.inl ⟨by omega, by omega, by omega⟩)
  · have e4 : PC (bts mi a L) L = 2 ^ 8 * (2 ^ 8 * (2 ^ 8 * 0 + bts mi a L 0) + bts mi a L 1) + bts mi a L 2 := by rw [hl]; rfl
    exact Or.inr (Or.inr (Or.inl ⟨by omega, by omega, by omega⟩))
  · have e4 : PC (bts mi a L) L = 2 ^ 8 * (2 ^ 8 * (2 ^ 8 * (2 ^ 8 * 0 + bts mi a L 0) + bts mi a L 1) + bts mi a L 2) + bts mi a L 3 := by rw [hl]; rfl
    exact Or.inr (Or.inr (Or.inr ⟨by omega, by omega⟩))
theorem NAME_pos {a b : Int32} (h : NAME a b) : 0 < a.toInt ∧ 0 < b.toInt := by
  obtain ⟨p, q, y, z, h1, h2, h3, h4, h5, h6, h7, h8, h9⟩ := h
  omega
theorem NAME_inj {a b a' b' : Int32} (h : NAME a b) (h' : NAME a' b') : a = a' ↔ b = b' := by
  obtain ⟨p, q, y, z, h1, h2, h3, h4, h5, h6, h7, h8, h9⟩ := h
  obtain ⟨p', q', y', z', g1, g2, g3, g4, g5, g6, g7, g8, g9⟩ := h'
  rw [← Int32.toInt_inj, ← Int32.toInt_inj]
  constructor
  · intro e
    rcases h9 with h9 | h9 | h9 | h9 <;> rcases g9 with g9 | g9 | g9 | g9 <;> omega
  · intro e
    have e1 : p = p' := by omega
    have e2 : q = q' := by omega
    have e3 : y = y' := by omega
    have e4 : z = z' := by omega
    subst e1 e2 e3 e4
    rcases h9 with h9 | h9 | h9 | h9 <;> rcases g9 with g9 | g9 | g9 | g9 <;> omega
/-- the name that some bytes are, on both sides: none, or the same one -/
def NMV (c m : Int32) : Prop := (c = 0 ∧ m = -1) ∨ NAME c m
theorem name_same {n : Nat} {ic ml s e l : Int32} {ib mi : Nat → Int32} {a b : Nat} (h : INPn n ic ib ml mi) (hs : s.toInt = (a : Int)) (he : e.toInt = (b : Int)) (hl : l.toInt = ((b - a : Nat) : Int)) (hab : a ≤ b) (hb : b ≤ n) : ∃ c m, f_X0_nameBetween 600 ic ib s e = some c ∧ f_X12_nameFrom mi s l = some m ∧ NMV c m := by
  have hn := h.2.1
  have hes : (e - s).toInt = ((b - a : Nat) : Int) := by rw [ti_sub he hs (by omega) (by omega)]; omega
  by_cases h4 : 4 < b - a
  · refine ⟨0, -1, ?_, nameFrom_out hl (Or.inr h4), Or.inl ⟨rfl, rfl⟩⟩
    unfold f_X0_nameBetween
    rw [if_pos (by rw [ti_lt (a := 4) (by decide) hes]; omega)]
    rw [ob_some, nb_zero (by decide)]
    rfl
  · have hgo : f_X0_nameBetween 600 ic ib s e = (f_X0_nameBetween_L19 600 ic ib e 5000 1 0 s).bind fun o6 => if o6.1 = 0 then some 0 else some o6.2 := by
      unfold f_X0_nameBetween
      rw [if_neg (by rw [ti_lt (a := 4) (by decide) hes]; omega), ob_some]
    have hba : a + (b - a) = b := by omega
    by_cases hA : ALLB mi 97 122 a b
    · have hall := nb_all (L := b - a) h (by rw [hba]; exact he) (by omega) (by omega) (by rw [hba]; exact hA) 5000 0 s (by rw [hs]; omega) (by omega) (by omega)
      have hall0 : f_X0_nameBetween_L19 600 ic ib e 5000 1 0 s = some (1, Int32.ofNat (PC (bts mi a (b - a)) (b - a))) := hall
      rw [hgo, hall0]
      by_cases h0 : b - a = 0
      · refine ⟨0, -1, ?_, nameFrom_out hl (Or.inl h0), Or.inl ⟨rfl, rfl⟩⟩
        show (if (1 : Int32) = 0 then some 0 else some (Int32.ofNat (PC (bts mi a (b - a)) (b - a)))) = some 0
        rw [if_neg (by decide), h0]
        rfl
      · refine ⟨Int32.ofNat (PC (bts mi a (b - a)) (b - a)), Int32.ofNat (PR (bts mi a (b - a)) 4), ?_, ?_, Or.inr (NAME_of (by omega) (by omega) (by rw [hba]; exact hA))⟩
        · show (if (1 : Int32) = 0 then some 0 else some (Int32.ofNat (PC (bts mi a (b - a)) (b - a)))) = _
          rw [if_neg (by decide)]
        · rw [nameFrom_in hl (by omega) (by omega)]
          exact nf_all h hs hl (by omega) (by omega) (by rw [hba]; exact hA) 5000 0 0 (by decide) (by omega) (by omega)
    · have hex : ∃ k, a ≤ k ∧ k < b ∧ ¬ (97 ≤ (mi k).toInt ∧ (mi k).toInt ≤ 122) := by
        refine Classical.byContradiction fun hne => hA (fun k h1 h2 => ?_)
        exact Classical.byContradiction fun h3 => hne ⟨k, h1, h2, h3⟩
      obtain ⟨v', hv⟩ := nb_bad h he hb 5000 a s 0 hs hab (by omega) hex
      obtain ⟨k, k1, k2, k3⟩ := hex
      refine ⟨0, -1, ?_, ?_, Or.inl ⟨rfl, rfl⟩⟩
      · rw [hgo, hv]
        rfl
      · rw [nameFrom_in hl (by omega) (by omega)]
        exact nf_bad h hs hl (by omega) (by omega) 5000 0 0 0 (by decide) (by omega) (by omega) ⟨k, by omega, by omega, k3⟩
