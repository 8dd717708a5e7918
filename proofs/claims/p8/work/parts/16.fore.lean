theorem zl_mx {x y : Int64} : x.toInt ≤ (if y < x then x else y).toInt := by
  split
  · exact Int.le_refl _
  · rename_i h; have h7 := zl_nlt h; omega
