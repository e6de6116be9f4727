theorem row_eq {y b : Int32} (h0 : ¬ y < 0) (h1 : ¬ (7 : Int32) < y) (h2 : ¬ b < 0) (h3 : b ≤ (255 : Int32)) : bcount (rowset y b) = a_row y b := sorry
