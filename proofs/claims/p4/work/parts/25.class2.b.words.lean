theorem z_25_class2_b_words_lean_txt : True := trivial
