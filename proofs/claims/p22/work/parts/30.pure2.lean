/-! the class's own ways to the chart -/
def iw (v lo hi : Int32) : Int32 := if hi < (if v < lo then lo else v) then hi else (if v < lo then lo else v)
theorem iw_clampW {z : Int} (h1 : -1000 ≤ z) (h2 : z ≤ 1000) : iw (zI z) (nI 1) (nI 40) = nI (clampW z) := by
  have k1 := kz_cmp h1 h2 (n := 1) (by decide)
  have k40 := kz_cmp h1 h2 (n := 40) (by decide)
  unfold iw
  by_cases a : z < 1
  · have e1 : (if zI z < nI 1 then nI 1 else zI z) = nI 1 := if_pos (k1.1.mpr (by omega))
    rw [e1, if_neg (by decide), clW_lo a]
  · have e1 : (if zI z < nI 1 then nI 1 else zI z) = zI z := if_neg (fun q => a (by have := k1.1.mp q; omega))
    rw [e1]
    by_cases b : 40 < z
    · rw [if_pos (k40.2.2.1.mpr (by omega)), clW_hi (by omega) b]
    · rw [if_neg (fun q => b (by have := k40.2.2.1.mp q; omega)), clW_mid (by omega) (by omega)]
theorem iw_clampF {a : Nat} (h : a < 2 ^ 31) : iw (nI a) (nI 1) (nI 20) = nI (clampF a) := by
  unfold iw clampF
  by_cases c : a < 1
  · have e1 : (if nI a < nI 1 then nI 1 else nI a) = nI 1 := if_pos ((nI_ltI h (by decide)).mpr c)
    rw [e1, if_neg (by decide), if_pos c]
  · have e1 : (if nI a < nI 1 then nI 1 else nI a) = nI a := if_neg (fun q => c ((nI_ltI h (by decide)).mp q))
    rw [e1, if_neg c]
    by_cases d : 20 < a
    · rw [if_pos ((nI_ltI (by decide) h).mpr d), if_pos d]
    · rw [if_neg (fun q => d ((nI_ltI (by decide) h).mp q)), if_neg d]
/-- c places of a row drawn, from st on -/
def drawP (F : Nat → Nat) (st k u w c : Nat) : Nat → Nat := fun x => if st ≤ x ∧ x < st + c then stV k u w (x - st) else F x
theorem drawP_0 (F : Nat → Nat) (st k u w : Nat) : drawP F st k u w 0 = F := by
  funext x; unfold drawP; rw [if_neg (by omega)]
theorem drawP_s {F : Nat → Nat} {st k u w c v : Nat} (h : stV k u w c = v) : drawP F st k u w (c + 1) = va_up (drawP F st k u w c) (st + c) v := by
  funext x
  unfold drawP va_up
  by_cases e : x = st + c
  · subst e; rw [if_pos (by omega), if_pos rfl, Nat.add_sub_cancel_left, h]
  · rw [if_neg e]
    by_cases d : st ≤ x ∧ x < st + c
    · rw [if_pos (by omega : st ≤ x ∧ x < st + (c + 1))]; exact (if_pos d).symm
    · rw [if_neg (by omega : ¬ (st ≤ x ∧ x < st + (c + 1)))]; exact (if_neg d).symm
def wN (w : Nat) (z : Int) : Nat → Nat
  | 0 => w
  | i + 1 => clampW ((wN w z i : Int) + z)
def dlF (F : Nat → Nat) (k u : Nat) (z : Int) (w rc : Nat) : Nat → Nat → Nat
  | 0 => F
  | i + 1 => drawP (dlF F k u z w rc i) ((rc + i) * 40) k u (wN w z i) (wN w z i)
def dlY (Y : Nat → Nat) (k u : Nat) (z : Int) (w rc : Nat) : Nat → Nat → Nat
  | 0 => Y
  | i + 1 => va_up (dlY Y k u z w rc i) (rc + i) (ynV k u (wN w z i))
theorem wN_in {w : Nat} {z : Int} (h : 1 ≤ w ∧ w ≤ 40) : ∀ i, 1 ≤ wN w z i ∧ wN w z i ≤ 40
  | 0 => h
  | _ + 1 => clampW_in _
theorem modS {c m : Nat} (h0 : 0 < m) : (c % m + 1 = m → (c + 1) % m = 0) ∧ (c % m + 1 ≠ m → (c + 1) % m = c % m + 1) := by
  have hd := Nat.div_add_mod c m
  have hl := Nat.mod_lt c h0
  constructor
  · intro h
    have e : c + 1 = m * (c / m + 1) := by rw [Nat.mul_succ]; omega
    rw [e]; exact Nat.mul_mod_right _ _
  · intro h
    have e : c + 1 = (c % m + 1) + m * (c / m) := by omega
    rw [e, Nat.add_mul_mod_self_left]
    exact Nat.mod_eq_of_lt (by omega)
theorem stV_in {k u w c : Nat} (hc : c < w) : stV k u w c = if c % (k + u) < k then 1 else 2 := by unfold stV; rw [if_neg (by omega)]
