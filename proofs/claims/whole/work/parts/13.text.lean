/-! texts: what a row of codes holds, and what the texts are -/
def tRep (C : Nat → Int) (len : Int) (T : List Int) : Prop := len = (T.length : Int) ∧ ∀ i : Nat, i < T.length → T[i]? = some (C i)
theorem tRep_put {C : Nat → Int} {len : Int} {T : List Int} (h : tRep C len T) (x : Int) : tRep (zu C len.toNat x) (len + 1) (T ++ [x]) := by
  obtain ⟨h1, h2⟩ := h
  have e : len.toNat = T.length := by omega
  refine ⟨by rw [List.length_append, List.length_singleton]; omega, fun i hi => ?_⟩
  rw [List.length_append, List.length_singleton] at hi
  by_cases k : i = T.length
  · subst k
    rw [List.getElem?_append_right (Nat.le_refl _), Nat.sub_self, e, zu_s]; rfl
  · rw [List.getElem?_append_left (by omega), zu_n _ _ (by omega)]; exact h2 i (by omega)
theorem tRep_put' {C C' : Nat → Int} {len len' : Int} {T : List Int} {x : Int} (h : tRep C len T) (hp : C' = zu C len.toNat x ∧ len' = len + 1) : tRep C' len' (T ++ [x]) := by
  rw [hp.1, hp.2]; exact tRep_put h x
theorem tRep_nil (C : Nat → Int) : tRep C 0 [] := ⟨rfl, fun i h => absurd h (Nat.not_lt_zero i)⟩
theorem tRep_ins {C C' : Nat → Int} {len pl am x : Int} {T : List Int} (h : tRep C len T) (hpl : 0 ≤ pl ∧ pl ≤ len) (ham : 0 < am) (hC : ∀ j : Nat, (j : Int) < len + am → C' j = if (j : Int) < pl then C j else if (j : Int) < pl + am then x else C (j - am.toNat)) : tRep C' (len + am) (T.take pl.toNat ++ List.replicate am.toNat x ++ T.drop pl.toNat) := by
  obtain ⟨h1, h2⟩ := h
  have l1 : (T.take pl.toNat).length = pl.toNat := by rw [List.length_take]; omega
  have l2 : (T.take pl.toNat ++ List.replicate am.toNat x).length = pl.toNat + am.toNat := by rw [List.length_append, l1, List.length_replicate]
  refine ⟨by rw [List.length_append, l2, List.length_drop]; omega, fun i hi => ?_⟩
  rw [List.length_append, l2, List.length_drop] at hi
  rw [hC i (by omega)]
  by_cases k1 : (i : Int) < pl
  · rw [if_pos k1, List.getElem?_append_left (by omega), List.getElem?_append_left (by omega), List.getElem?_take_of_lt (by omega)]
    exact h2 i (by omega)
  · rw [if_neg k1]
    by_cases k2 : (i : Int) < pl + am
    · rw [if_pos k2, List.getElem?_append_left (by omega), List.getElem?_append_right (by omega), l1, List.getElem?_replicate, if_pos (by omega)]
    · rw [if_neg k2, List.getElem?_append_right (by omega), l2, List.getElem?_drop]
      have e : pl.toNat + (i - (pl.toNat + am.toNat)) = i - am.toNat := by omega
      rw [e]; exact h2 _ (by omega)
theorem tRep_rng {C : Nat → Int} {len : Int} {T : List Int} (h : tRep C len T) (hR : ∀ x ∈ T, 0 ≤ x ∧ x ≤ 65535) : ∀ j : Nat, (j : Int) < len → 0 ≤ C j ∧ C j ≤ 65535 := by
  intro j hj
  have h2 := h.2 j (by have := h.1; omega)
  exact hR _ (List.mem_of_getElem? h2)
/-- the codes of the digits from the power a down to b -/
def dT (f : Int → Int) (a b : Int) : List Int := (List.range (a - b + 1).toNat).map (fun (k : Nat) => 48 + f (a - (k : Int)))
theorem dT_nil (f : Int → Int) {a b : Int} (h : a < b) : dT f a b = [] := by
  unfold dT
  have e : (a - b + 1).toNat = 0 := by omega
  rw [e]; rfl
theorem dT_snoc (f : Int → Int) {a b : Int} (h : b ≤ a) : dT f a b = dT f a (b + 1) ++ [48 + f b] := by
  unfold dT
  have e : (a - b + 1).toNat = (a - (b + 1) + 1).toNat + 1 := by omega
  rw [e, List.range_succ, List.map_append, List.map_singleton]
  have e2 : a - (((a - (b + 1) + 1).toNat : Nat) : Int) = b := by omega
  rw [e2]
theorem dT_one (f : Int → Int) (a : Int) : dT f a a = [48 + f a] := by
  rw [dT_snoc f (Int.le_refl a), dT_nil f (by omega), List.nil_append]
theorem dT_len (f : Int → Int) (a b : Int) : (dT f a b).length = (a - b + 1).toNat := by
  unfold dT; rw [List.length_map, List.length_range]
theorem dT_congr {f g : Int → Int} {a b : Int} (h : ∀ q, b ≤ q → q ≤ a → f q = g q) : dT f a b = dT g a b := by
  unfold dT
  apply List.map_congr_left
  intro k hk
  rw [List.mem_range] at hk
  rw [h _ (by omega) (by omega)]
theorem dT_rng {f : Int → Int} {a b : Int} (h : ∀ q, 0 ≤ f q ∧ f q ≤ 9) : ∀ x ∈ dT f a b, 0 ≤ x ∧ x ≤ 65535 := by
  intro x hx
  unfold dT at hx
  obtain ⟨k, -, rfl⟩ := List.mem_map.mp hx
  have := h (a - (k : Int))
  omega
def ptT (pt : Int) : List Int := if pt = 1 then [46] else []
/-- the digit of Y / 10 ^ 1200 at a power -/
def gX (Y : Nat) (q : Int) : Int := (dg Y (q + 1200).toNat : Int)
theorem gX_9 (Y : Nat) (q : Int) : 0 ≤ gX Y q ∧ gX Y q ≤ 9 := by
  unfold gX
  have := dg_lt Y (q + 1200).toNat
  omega
def sgT (bz fl : Int) : List Int := if bz < 0 then [45] else if fl / 2 % 2 = 1 then [43] else if fl / 4 % 2 = 1 then [32] else []
def exA (po : Int) : Int := if 0 ≤ po then po else -po
def exT (po mk : Int) : List Int := [mk, if po < 0 then 45 else 43] ++ (if 100 ≤ exA po then [48 + exA po / 100] else []) ++ [48 + exA po / 10 % 10, 48 + exA po % 10]
/-- the power of the first digit; 0 of 0 -/
def hiX (Y : Nat) : Int := if Y = 0 then 0 else (ln Y : Int) - 1201
def plT (X : Nat) (p pt : Int) : List Int := dT (gX (rX X (1200 - p).toNat)) (if 0 < hiX (rX X (1200 - p).toNat) then hiX (rX X (1200 - p).toNat) else 0) 0 ++ ptT pt ++ dT (gX (rX X (1200 - p).toNat)) (-1) (-p)
/-- rounded to its first p + 1 digits -/
def eY (X : Nat) (p : Int) : Nat := rX X ((ln X : Int) - 1 - p).toNat
def epT (X : Nat) (p pt mk : Int) : List Int := dT (gX (eY X p)) (hiX (eY X p)) (hiX (eY X p)) ++ ptT pt ++ dT (gX (eY X p)) (hiX (eY X p) - 1) (hiX (eY X p) - p) ++ exT (hiX (eY X p)) mk
def boT (bz how p pt : Int) : List Int := if xE bz = 2047 then [105, 110, 102] else if how = 0 then plT (xX bz) p pt else epT (xX bz) p pt (if how = 2 then 69 else 101)
def padT (T : List Int) (bs mi fin fl : Int) : List Int := if mi ≤ 0 then T else if fl % 2 = 1 then T ++ List.replicate mi.toNat 32 else if fl / 8 % 2 = 1 ∧ fin = 1 then T.take bs.toNat ++ List.replicate mi.toNat 48 ++ T.drop bs.toNat else List.replicate mi.toNat 32 ++ T
def ptF (p fl : Int) : Int := if 0 < p ∨ fl / 16 % 2 = 1 then 1 else 0
def bare (bz how p fl : Int) : List Int := sgT bz fl ++ boT bz how p (ptF p fl)
def mkT (bz how p wd fl : Int) : List Int := padT (bare bz how p fl) ((sgT bz fl).length : Int) (wd - ((bare bz how p fl).length : Int)) (if xE bz = 2047 then 0 else 1) fl
def okF (bz how p wd fl : Int) : Prop := (0 ≤ how ∧ how ≤ 2) ∧ (0 ≤ p ∧ p ≤ 15) ∧ (0 ≤ wd ∧ wd ≤ 400) ∧ (0 ≤ fl ∧ fl ≤ 31) ∧ ¬ (xE bz = 2047 ∧ bz % 4503599627370496 ≠ 0)
theorem padT_len (T : List Int) {bs mi fin fl : Int} (hb : 0 ≤ bs ∧ bs ≤ (T.length : Int)) : ((padT T bs mi fin fl).length : Int) = (T.length : Int) + (if 0 < mi then mi else 0) := by
  unfold padT
  by_cases h1 : mi ≤ 0
  · rw [if_pos h1, if_neg (show ¬ 0 < mi by omega)]; omega
  · rw [if_neg h1, if_pos (show 0 < mi by omega)]
    by_cases h2 : fl % 2 = 1
    · rw [if_pos h2, List.length_append, List.length_replicate]; omega
    · rw [if_neg h2]
      by_cases h3 : fl / 8 % 2 = 1 ∧ fin = 1
      · rw [if_pos h3, List.length_append, List.length_append, List.length_replicate, List.length_take, List.length_drop]; omega
      · rw [if_neg h3, List.length_append, List.length_replicate]; omega
