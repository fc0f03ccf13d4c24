theorem tb_one : True := trivial
