theorem t1 (a b c d : Int) : (a - b) * (c + d) = a * c + a * d - b * c - b * d := by grind
theorem t2 (a b c d : Int) (h : 0 ≤ (a - b) * (c - d)) : a * d + b * c ≤ a * c + b * d := by grind
theorem t3 (x p q r : Int) (h1 : 0 ≤ (p - q) * x) (h2 : 0 ≤ (q - r) * x) : r * x ≤ p * x := by grind
theorem t4 (x y z : Int) (hx : 0 < x) (h : x * y ≤ x * z) : y ≤ z := Int.le_of_mul_le_mul_left h hx
theorem t5 (S Sb T Tb l : Int) (x : Int) (h : (l * Sb - S) * Tb ≤ T * x) : l * Sb * Tb ≤ S * Tb + T * x := by grind
