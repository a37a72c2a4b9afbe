theorem ti_mulr {x y : Int32} {k : Int} (hk : y.toInt = k) (h1 : -2147483648 ≤ x.toInt * k) (h2 : x.toInt * k < 2147483648) : (x * y).toInt = x.toInt * k := by
  subst hk; exact ti_imul h1 h2
theorem ti_mull {x y : Int32} {k : Int} (hk : x.toInt = k) (h1 : -2147483648 ≤ k * y.toInt) (h2 : k * y.toInt < 2147483648) : (x * y).toInt = k * y.toInt := by
  subst hk; exact ti_imul h1 h2
