theorem m_bestRow (i : Int32) : RM (f_X9_bestRow 0 i) (f_X10_bestRow 214 i) := sorry
