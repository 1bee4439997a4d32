def bt1 (p : Int32) : Int32 := 1 <<< (p &&& 31)
