/-! at most 720 ways -/
def dig (x : Nat) : Nat → Int := fun j => ((x / 8 ^ j % 8 : Nat) : Int)
def enc (k : Nat) (f : Nat → Int) : Nat := match k with
  | 0 => 0
  | k + 1 => enc k f + (f k).toNat * 8 ^ k
def idn (k : Nat) : Nat := match k with
  | 0 => 0
  | k + 1 => idn k + k * 8 ^ k
def tz (k : Nat) (f : Nat) (x : Nat) : Bool := match f with
  | 0 => false
  | f + 1 => match nxt k (dig x) with
    | none => true
    | some g => tz k f (enc k g)
theorem tz_0 : tz 0 720 (idn 0) = true := by decide +kernel
theorem tz_1 : tz 1 720 (idn 1) = true := by decide +kernel
theorem tz_2 : tz 2 720 (idn 2) = true := by decide +kernel
theorem tz_3 : tz 3 720 (idn 3) = true := by decide +kernel
theorem tz_4 : tz 4 720 (idn 4) = true := by decide +kernel
theorem tz_5 : tz 5 720 (idn 5) = true := by decide +kernel
theorem tz_6 : tz 6 720 (idn 6) = true := by decide +kernel
