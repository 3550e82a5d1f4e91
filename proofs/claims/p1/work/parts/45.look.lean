theorem zi_n {S : zS} {i j a b : Nat} {v : Int32} (h : j ≠ i) : zi (zPi S i a v) j b = zi S j b := z2_n _ _ (Or.inl h)
theorem zi_m {S : zS} {i j a b : Nat} {v : Int32} (h : b ≠ a) : zi (zPi S i a v) j b = zi S j b := z2_n _ _ (Or.inr h)
theorem zi_s {S : zS} {i a : Nat} {v : Int32} : zi (zPi S i a v) i a = v := z2_s _ _ _ _
theorem zq_n {S : zS} {i j a b : Nat} {v : Option Nat} (h : j ≠ i) : zq (zPq S i a v) j b = zq S j b := z2_n _ _ (Or.inl h)
theorem zq_m {S : zS} {i j a b : Nat} {v : Option Nat} (h : b ≠ a) : zq (zPq S i a v) j b = zq S j b := z2_n _ _ (Or.inr h)
theorem zq_s {S : zS} {i a : Nat} {v : Option Nat} : zq (zPq S i a v) i a = v := z2_s _ _ _ _
theorem zl_n {S : zS} {i j a b : Nat} {v : Int64} (h : j ≠ i) : zl (zPl S i a v) j b = zl S j b := z2_n _ _ (Or.inl h)
theorem zl_m {S : zS} {i j a b : Nat} {v : Int64} (h : b ≠ a) : zl (zPl S i a v) j b = zl S j b := z2_n _ _ (Or.inr h)
theorem zl_s {S : zS} {i a : Nat} {v : Int64} : zl (zPl S i a v) i a = v := z2_s _ _ _ _
