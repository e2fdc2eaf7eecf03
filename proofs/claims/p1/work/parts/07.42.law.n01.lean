abbrev b_L_law : ByteArray := code
