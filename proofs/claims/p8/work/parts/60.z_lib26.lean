def bG (a : Int → Int) (t x1 x2 x3 x4 x5 : Int) : Int → Int := bP (bP (bP (bP (bP a t x1) (t + 4) x2) (t + 4 + 4) x3) (t + 4 + 4 + 4) x4) (t + 4 + 4 + 4 + 4) x5
