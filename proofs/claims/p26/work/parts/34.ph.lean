theorem pq_ph34 : True := trivial
