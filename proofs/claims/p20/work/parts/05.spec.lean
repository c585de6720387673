/-! agree: numbers and weights by their digits, shares -/
def za_w (v : Int) : Nat → Int
  | 0 => v
  | s + 1 => za_w v s / 100
def za_n (v : Int) : Nat → Int
  | 0 => v
  | s + 1 => za_n v s / 1000
def za_S (f : Nat → Int) : Nat → Int
  | 0 => 0
  | s + 1 => za_S f s + f s
def za_W (v : Int) (s : Nat) : Int := za_w v s % 100
def za_N (v : Int) (s : Nat) : Int := za_n v s % 1000
def za_P (v A D : Int) (s : Nat) : Int := D * za_W v s / A
def za_B (v : Int) (s : Nat) : Int := if 0 < za_W v s then 1 else 0
def za_sh (v A D : Int) (s : Nat) : Int := if 0 < D - za_S (za_P v A D) 4 - za_S (za_B v) s ∧ 0 < za_W v s then za_P v A D s + 1 else za_P v A D s
def za_ag (nu we wh : Int) (s : Nat) : Int := if za_S (za_N nu) 4 = wh then za_N nu s else if za_S (za_W we) 4 = 0 then -100004 else if za_S (za_N nu) 4 < wh then za_N nu s + za_sh we (za_S (za_W we) 4) (wh - za_S (za_N nu) 4) s else za_N nu s - za_sh we (za_S (za_W we) 4) (za_S (za_N nu) 4 - wh) s
theorem za_w1 {v : Int} {n m : Nat} (h : n = m + 1) : za_w v n = za_w v m / 100 := by subst h; rfl
theorem za_n1 {v : Int} {n m : Nat} (h : n = m + 1) : za_n v n = za_n v m / 1000 := by subst h; rfl
theorem za_S1 {f : Nat → Int} {n m : Nat} (h : n = m + 1) : za_S f n = za_S f m + f m := by subst h; rfl
theorem za_S0 {f : Nat → Int} {n : Nat} (h : n = 0) : za_S f n = 0 := by subst h; rfl
theorem za_w0 {v : Int} {n : Nat} (h : n = 0) : za_w v n = v := by subst h; rfl
theorem za_n0 {v : Int} {n : Nat} (h : n = 0) : za_n v n = v := by subst h; rfl
