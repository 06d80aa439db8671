def cR (n : Int32) : Nat → Int32 → Sc → Int32 × Sc
  | 0, k, S => (k, S)
  | f + 1, k, S => if n ≤ k then (k, S) else (if S.1 12 = (0 : Int32) then cR n f (k + 1) (f_Prc_makeStep S) else (k, S))
def mR (n : Int32) : Nat → Int32 → Sc → Int32 × Sc
  | 0, k, S => (k, S)
  | f + 1, k, S => if n ≤ k then (k, S) else (if S.1 9 = (0 : Int32) then mR n f (k + 1) (f_Mdl_step S) else (k, S))
theorem cR_s (n : Int32) (f : Nat) (k : Int32) (S : Sc) : cR n (f + 1) k S = if n ≤ k then (k, S) else (if S.1 12 = (0 : Int32) then cR n f (k + 1) (f_Prc_makeStep S) else (k, S)) := rfl
theorem mR_s (n : Int32) (f : Nat) (k : Int32) (S : Sc) : mR n (f + 1) k S = if n ≤ k then (k, S) else (if S.1 9 = (0 : Int32) then mR n f (k + 1) (f_Mdl_step S) else (k, S)) := rfl
def f_Wc_run (S : Sc) (n : Int32) : Int32 × Sc := if n < (0 : Int32) then ((-1 : Int32), S) else (if n ≤ (60 : Int32) then cR n 61 (nI 0) S else ((-1 : Int32), S))
def f_Mdl_run (S : Sc) (n : Int32) : Int32 × Sc := if n < (0 : Int32) then ((-1 : Int32), S) else (if n ≤ (60 : Int32) then mR n 61 (nI 0) S else ((-1 : Int32), S))
theorem le61 {n : Int32} {k : Nat} (h : n ≤ (60 : Int32)) (hk : k + 0 = 61) : n ≤ nI k := by
  have e : k = 61 := by omega
  subst e
  exact Int32.le_trans h (by decide)
